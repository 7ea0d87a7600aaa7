set_option maxHeartbeats 4000000 in
set_option maxRecDepth 100000 in
theorem c_X10_cell {ad : Nat → Nat} {I : KI} {J : KJ} {t : Nat} {th : Nat → Bool} {so ct : Nat → Nat} {ce : Nat → Nat → Int32} (hs : mSh I th so ct ce) (ok : okSh so ct){kv iv sv : Int32} {Q : Int64 → KI → KJ → KR → Prop} (hR : ∀ f, cellR th so ct kv iv sv = some f → Q (-9223372036854775808) (upI I 85 0 (nI f)) J (rf t)) (hS : cellR th so ct kv iv sv = none → ∀ k i : Nat, kv = nI k → k < 4 → iv = nI i → i < 100 → Q (ce k i).toInt64 (upI I 85 0 (nI 0)) J (rf t)) : Ml 3 yX10_cell (wm yX10_cell cX10_cell 4 (some .long)) [.ref (ad 85), .int (kv), .int (iv), .int (sv)] ad I J (rf t) Q := by
  refine ml_of (own := RX10) yk_X10_cell rfl (Nat.le_of_ble_eq_true rfl) rfl (fun X hA hnL C K E => ?_)
  subst hA
  refine z_aload_n (n := 1) C 0 dX10_cell_0 rfl rfl ?_
  refine z_iconst (n := 2) (v := 0) C dX10_cell_1 rfl rfl ?_
  refine z_putI (n := 5) C K fF_RX10_87 dX10_cell_2 rfl sh_85 (by decide) ?_
  refine z_iload_n (n := 6) C 1 dX10_cell_5 rfl rfl ?_
  refine z_si_1 (n := 9) (d' := 2) C K dX10_cell_6 rfl yk_X10_isSheet kT_yX10_isSheet kM_RX10_99 (by decide) hR0 rfl ?_
  refine c_X10_isSheet (fun b6 => ?_) (fun b6 => ?_)
  · refine z_ifF_eq (n := 12) (tgt := 19) C (by decide) dX10_cell_9 rfl rfl ?_
    refine z_iload_n (n := 13) C 3 dX10_cell_12 rfl rfl ?_
    refine z_si_1 (n := 16) (d' := 2) C K dX10_cell_13 rfl yk_X10_isSort kT_yX10_isSort kM_RX10_103 (by decide) hR0 rfl ?_
    refine c_X10_isSort (fun b13 => ?_) (fun b13 => ?_)
    · refine z_ifT_ne (tgt := 23) C (by decide) dX10_cell_16 rfl ?_
      obtain ⟨k, hk3, rfl⟩ := isB_of (h := 3) b6
      have hk : k < 4 := by omega
      have hz := hs.fa (j := 0) (v := 0) k hk
      have hkc : (nI k).toNatClampNeg = k := nI_clamp (by omega)
      have hok := ok k hk
      refine z_aload_n (n := 24) C 0 dX10_cell_23 rfl rfl ?_
      refine z_getR (n := 27) (q := 86) C K fF_RX10_9 dX10_cell_24 rfl rfl sh_85 (by decide) rfl ?_
      refine z_iload_n (n := 28) C 1 dX10_cell_27 rfl rfl ?_
      refine z_ialdN (n := 29) C K k dX10_cell_28 rfl sh_86 (by decide) rfl hk (by decide) ?_
      refine z_bipush (n := 31) (v := (-9)) C dX10_cell_29 rfl rfl ?_
      rw [hz.1]
      refine z_icmp_eq (tgt := 50) (n := 34) C dX10_cell_31 rfl rfl (fun c31 => ?_) (fun c31 => ?_)
      · refine z_aload_n (n := 51) C 0 dX10_cell_50 rfl rfl ?_
        refine z_getR (n := 54) (q := 86) C K fF_RX10_9 dX10_cell_51 rfl rfl sh_85 (by decide) rfl ?_
        refine z_iload_n (n := 55) C 1 dX10_cell_54 rfl rfl ?_
        refine z_ialdN (n := 56) C K k dX10_cell_55 rfl sh_86 (by decide) rfl hk (by decide) ?_
        refine z_bipush (n := 58) (v := (-9)) C dX10_cell_56 rfl rfl ?_
        rw [hz.1]
        refine z_icmp_ne (tgt := 67) (n := 61) C dX10_cell_58 rfl rfl (fun c58 => ?_) (fun c58 => ?_)
        · refine z_iload_n (n := 68) C 2 dX10_cell_67 rfl rfl ?_
          refine z_iconst (n := 69) (v := 0) C dX10_cell_68 rfl rfl ?_
          refine z_aload_n (n := 70) C 0 dX10_cell_69 rfl rfl ?_
          refine z_getR (n := 73) (q := 87) C K fF_RX10_13 dX10_cell_70 rfl rfl sh_85 (by decide) rfl ?_
          refine z_iload_n (n := 74) C 1 dX10_cell_73 rfl rfl ?_
          refine z_ialdN (n := 75) C K k dX10_cell_74 rfl sh_87 (by decide) rfl hk (by decide) ?_
          refine z_iconst (n := 76) (v := 1) C dX10_cell_75 rfl rfl ?_
          refine z_isub (n := 77) C dX10_cell_76 rfl ?_
          refine z_si_3 (n := 80) (d' := 1) C K dX10_cell_77 rfl yk_X10_within kT_yX10_within kM_RX10_92 (by decide) hR0 rfl ?_
          refine m_inB (lo := 0) (hi := (ct k : Int) - 1) (by decide) (by rw [hz.2.1, fb_subI (by rw [nI_toInt (by omega)]; simp only [Int32.reduceToInt]; omega) (by rw [nI_toInt (by omega)]; simp only [Int32.reduceToInt]; omega), nI_toInt (by omega)]; rfl) (fun b77 => ?_) (fun b77 => ?_)
          · refine z_ifT_ne (tgt := 89) C (by decide) dX10_cell_80 rfl ?_
            obtain ⟨i, hi, rfl⟩ := i_natlt (n := ct k) (x := iv) b77.1 (by have := b77.2; omega)
            refine z_aload_n (n := 90) C 0 dX10_cell_89 rfl rfl ?_
            refine z_getR (n := 93) (q := 88) C K fF_RX10_16 dX10_cell_90 rfl rfl sh_85 (by decide) rfl ?_
            refine z_bipush (n := 95) (v := 100) C dX10_cell_93 rfl rfl ?_
            refine z_iload_n (n := 96) C 1 dX10_cell_95 rfl rfl ?_
            refine z_imul (n := 97) C dX10_cell_96 rfl ?_
            refine z_iload_n (n := 98) C 2 dX10_cell_97 rfl rfl ?_
            refine z_iadd (n := 99) C dX10_cell_98 rfl ?_
            refine z_ialdN (n := 100) C K (100 * k + i) dX10_cell_99 rfl sh_88 (by decide) (by rw [show (100 : Int32) = nI 100 from rfl, mul_nI, nI_add]) (by omega) (by decide) ?_
            refine z_i2l (n := 101) C dX10_cell_100 rfl ?_
            refine z_lret C E dX10_cell_101 ?_
            rw [so_n9 hok.1] at c31 c58
            have hth : th k = true ∨ th k = false := by cases th k <;> simp
            exact absurd c31 c58
          · refine z_ifF_ne (n := 83) (tgt := 89) C (by decide) dX10_cell_80 rfl rfl ?_
            refine z_aload_n (n := 84) C 0 dX10_cell_83 rfl rfl ?_
            refine z_iconst (n := 85) (v := 3) C dX10_cell_84 rfl rfl ?_
            refine z_vl_1 (n := 88) (d' := 1) C K dX10_cell_85 rfl yk_X10_lost yv_X10_lost kM_RX10_224 (by decide) hR0 rfl rfl sh_85 (by decide) (by decide) ?_
            refine c_X10_lost ?_
            refine z_lret C E dX10_cell_88 ?_
            rw [so_n9 hok.1] at c31 c58
            have hth : th k = true ∨ th k = false := by cases th k <;> simp
            exact absurd c31 c58
        · refine z_aload_n (n := 62) C 0 dX10_cell_61 rfl rfl ?_
          refine z_iconst (n := 63) (v := 1) C dX10_cell_62 rfl rfl ?_
          refine z_vl_1 (n := 66) (d' := 1) C K dX10_cell_63 rfl yk_X10_lost yv_X10_lost kM_RX10_224 (by decide) hR0 rfl rfl sh_85 (by decide) (by decide) ?_
          refine c_X10_lost ?_
          refine z_lret C E dX10_cell_66 ?_
          rw [so_n9 hok.1] at c31 c58
          have hth : th k = true ∨ th k = false := by cases th k <;> simp
          rw [upI_upI]
          exact hR 1 (by unfold cellR; rw [if_neg (fun q => q ⟨b6, b13⟩), hkc, if_pos c58])
      · refine z_aload_n (n := 35) C 0 dX10_cell_34 rfl rfl ?_
        refine z_getR (n := 38) (q := 86) C K fF_RX10_9 dX10_cell_35 rfl rfl sh_85 (by decide) rfl ?_
        refine z_iload_n (n := 39) C 1 dX10_cell_38 rfl rfl ?_
        refine z_ialdN (n := 40) C K k dX10_cell_39 rfl sh_86 (by decide) rfl hk (by decide) ?_
        refine z_iload_n (n := 41) C 3 dX10_cell_40 rfl rfl ?_
        rw [hz.1]
        refine z_icmp_eq (tgt := 50) (n := 44) C dX10_cell_41 rfl rfl (fun c41 => ?_) (fun c41 => ?_)
        · refine z_aload_n (n := 51) C 0 dX10_cell_50 rfl rfl ?_
          refine z_getR (n := 54) (q := 86) C K fF_RX10_9 dX10_cell_51 rfl rfl sh_85 (by decide) rfl ?_
          refine z_iload_n (n := 55) C 1 dX10_cell_54 rfl rfl ?_
          refine z_ialdN (n := 56) C K k dX10_cell_55 rfl sh_86 (by decide) rfl hk (by decide) ?_
          refine z_bipush (n := 58) (v := (-9)) C dX10_cell_56 rfl rfl ?_
          rw [hz.1]
          refine z_icmp_ne (tgt := 67) (n := 61) C dX10_cell_58 rfl rfl (fun c58 => ?_) (fun c58 => ?_)
          · refine z_iload_n (n := 68) C 2 dX10_cell_67 rfl rfl ?_
            refine z_iconst (n := 69) (v := 0) C dX10_cell_68 rfl rfl ?_
            refine z_aload_n (n := 70) C 0 dX10_cell_69 rfl rfl ?_
            refine z_getR (n := 73) (q := 87) C K fF_RX10_13 dX10_cell_70 rfl rfl sh_85 (by decide) rfl ?_
            refine z_iload_n (n := 74) C 1 dX10_cell_73 rfl rfl ?_
            refine z_ialdN (n := 75) C K k dX10_cell_74 rfl sh_87 (by decide) rfl hk (by decide) ?_
            refine z_iconst (n := 76) (v := 1) C dX10_cell_75 rfl rfl ?_
            refine z_isub (n := 77) C dX10_cell_76 rfl ?_
            refine z_si_3 (n := 80) (d' := 1) C K dX10_cell_77 rfl yk_X10_within kT_yX10_within kM_RX10_92 (by decide) hR0 rfl ?_
            refine m_inB (lo := 0) (hi := (ct k : Int) - 1) (by decide) (by rw [hz.2.1, fb_subI (by rw [nI_toInt (by omega)]; simp only [Int32.reduceToInt]; omega) (by rw [nI_toInt (by omega)]; simp only [Int32.reduceToInt]; omega), nI_toInt (by omega)]; rfl) (fun b77 => ?_) (fun b77 => ?_)
            · refine z_ifT_ne (tgt := 89) C (by decide) dX10_cell_80 rfl ?_
              obtain ⟨i, hi, rfl⟩ := i_natlt (n := ct k) (x := iv) b77.1 (by have := b77.2; omega)
              refine z_aload_n (n := 90) C 0 dX10_cell_89 rfl rfl ?_
              refine z_getR (n := 93) (q := 88) C K fF_RX10_16 dX10_cell_90 rfl rfl sh_85 (by decide) rfl ?_
              refine z_bipush (n := 95) (v := 100) C dX10_cell_93 rfl rfl ?_
              refine z_iload_n (n := 96) C 1 dX10_cell_95 rfl rfl ?_
              refine z_imul (n := 97) C dX10_cell_96 rfl ?_
              refine z_iload_n (n := 98) C 2 dX10_cell_97 rfl rfl ?_
              refine z_iadd (n := 99) C dX10_cell_98 rfl ?_
              refine z_ialdN (n := 100) C K (100 * k + i) dX10_cell_99 rfl sh_88 (by decide) (by rw [show (100 : Int32) = nI 100 from rfl, mul_nI, nI_add]) (by omega) (by decide) ?_
              refine z_i2l (n := 101) C dX10_cell_100 rfl ?_
              refine z_lret C E dX10_cell_101 ?_
              rw [so_n9 hok.1] at c31 c58
              have hth : th k = true ∨ th k = false := by cases th k <;> simp
              have h1 : th k = true := hth.resolve_right c31
              rw [so_eq h1] at c41
              rw [hz.2.2 i (by omega)]
              exact hS (by unfold cellR; rw [if_neg (fun q => q ⟨b6, b13⟩), hkc, if_neg c31, if_neg (fun q => q c41), if_neg (fun q => q (isN_nI hi (by omega)))]) k i rfl hk rfl (by omega)
            · refine z_ifF_ne (n := 83) (tgt := 89) C (by decide) dX10_cell_80 rfl rfl ?_
              refine z_aload_n (n := 84) C 0 dX10_cell_83 rfl rfl ?_
              refine z_iconst (n := 85) (v := 3) C dX10_cell_84 rfl rfl ?_
              refine z_vl_1 (n := 88) (d' := 1) C K dX10_cell_85 rfl yk_X10_lost yv_X10_lost kM_RX10_224 (by decide) hR0 rfl rfl sh_85 (by decide) (by decide) ?_
              refine c_X10_lost ?_
              refine z_lret C E dX10_cell_88 ?_
              rw [so_n9 hok.1] at c31 c58
              have hth : th k = true ∨ th k = false := by cases th k <;> simp
              have h1 : th k = true := hth.resolve_right c31
              rw [so_eq h1] at c41
              rw [upI_upI]
              exact hR 3 (by unfold cellR; rw [if_neg (fun q => q ⟨b6, b13⟩), hkc, if_neg c31, if_neg (fun q => q c41), if_pos (fun q => b77 ⟨q.1, by have := q.2; omega⟩)])
          · refine z_aload_n (n := 62) C 0 dX10_cell_61 rfl rfl ?_
            refine z_iconst (n := 63) (v := 1) C dX10_cell_62 rfl rfl ?_
            refine z_vl_1 (n := 66) (d' := 1) C K dX10_cell_63 rfl yk_X10_lost yv_X10_lost kM_RX10_224 (by decide) hR0 rfl rfl sh_85 (by decide) (by decide) ?_
            refine c_X10_lost ?_
            refine z_lret C E dX10_cell_66 ?_
            rw [so_n9 hok.1] at c31 c58
            have hth : th k = true ∨ th k = false := by cases th k <;> simp
            rw [upI_upI]
            exact hR 1 (by unfold cellR; rw [if_neg (fun q => q ⟨b6, b13⟩), hkc, if_pos c58])
        · refine z_aload_n (n := 45) C 0 dX10_cell_44 rfl rfl ?_
          refine z_iconst (n := 46) (v := 2) C dX10_cell_45 rfl rfl ?_
          refine z_vl_1 (n := 49) (d' := 1) C K dX10_cell_46 rfl yk_X10_lost yv_X10_lost kM_RX10_224 (by decide) hR0 rfl rfl sh_85 (by decide) (by decide) ?_
          refine c_X10_lost ?_
          refine z_lret C E dX10_cell_49 ?_
          rw [so_n9 hok.1] at c31
          have hth : th k = true ∨ th k = false := by cases th k <;> simp
          have h1 : th k = true := hth.resolve_right c31
          rw [so_eq h1] at c41
          rw [upI_upI]
          exact hR 2 (by unfold cellR; rw [if_neg (fun q => q ⟨b6, b13⟩), hkc, if_neg c31, if_pos c41])
    · refine z_ifF_ne (n := 19) (tgt := 23) C (by decide) dX10_cell_16 rfl rfl ?_
      refine z_ldc2 (n := 22) C dX10_cell_19 kK_RX10_90 rfl ?_
      refine z_lret C E dX10_cell_22 ?_
      exact hR 0 (by unfold cellR; rw [if_pos (fun q => b13 q.2)])
  · refine z_ifT_eq (tgt := 19) C (by decide) dX10_cell_9 rfl ?_
    refine z_ldc2 (n := 22) C dX10_cell_19 kK_RX10_90 rfl ?_
    refine z_lret C E dX10_cell_22 ?_
    exact hR 0 (by unfold cellR; rw [if_pos (fun q => b6 q.1)])
/-- the copy's cells, those from lo to hi of its run -/
def mcp (I : KI) (k o i j lo hi : Nat) : KI := fun p a => if p = 88 ∧ 100 * o + j + lo ≤ a ∧ a < 100 * o + j + hi then I 88 (100 * k + i + (a - (100 * o + j))) else I p a
theorem mcp_0 (I : KI) (k o i j lo : Nat) : mcp I k o i j lo lo = I := by funext p a; unfold mcp; rw [if_neg]; omega
theorem mcp_p (I : KI) {k o i j lo hi p : Nat} (h : p ≠ 88) : mcp I k o i j lo hi p = I p := by funext a; unfold mcp; simp [h]
theorem mcp_out (I : KI) {k o i j lo hi a : Nat} (h : ¬ (100 * o + j + lo ≤ a ∧ a < 100 * o + j + hi)) : mcp I k o i j lo hi 88 a = I 88 a := by unfold mcp; rw [if_neg (fun e => h e.2)]
theorem mcp_up (I : KI) (k o i j q : Nat) : upI (mcp I k o i j 0 q) 88 (100 * o + j + q) (I 88 (100 * k + i + q)) = mcp I k o i j 0 (q + 1) := by
  funext p a; unfold upI mcp
  by_cases h : p = 88 ∧ a = 100 * o + j + q
  · obtain ⟨rfl, rfl⟩ := h
    rw [if_pos ⟨rfl, rfl⟩, if_pos ⟨rfl, by omega⟩]; congr 1; omega
  · rw [if_neg h]
    by_cases h3 : p = 88 ∧ 100 * o + j + 0 ≤ a ∧ a < 100 * o + j + q
    · rw [if_pos h3, if_pos ⟨h3.1, h3.2.1, by omega⟩]
    · rw [if_neg h3, if_neg (fun e => h3 ⟨e.1, e.2.1, by have : a ≠ 100 * o + j + q := fun z => h ⟨e.1, z⟩; omega⟩)]
theorem mcp_dn (I : KI) (k o i j n : Nat) {c : Nat} (hc : c < n) : upI (mcp I k o i j (c + 1) n) 88 (100 * o + j + c) (I 88 (100 * k + i + c)) = mcp I k o i j c n := by
  funext p a; unfold upI mcp
  by_cases h : p = 88 ∧ a = 100 * o + j + c
  · obtain ⟨rfl, rfl⟩ := h
    rw [if_pos ⟨rfl, rfl⟩, if_pos ⟨rfl, by omega⟩]; congr 1; omega
  · rw [if_neg h]
    by_cases h3 : p = 88 ∧ 100 * o + j + (c + 1) ≤ a ∧ a < 100 * o + j + n
    · rw [if_pos h3, if_pos ⟨h3.1, by omega⟩]
    · rw [if_neg h3, if_neg (fun e => h3 ⟨e.1, by have : a ≠ 100 * o + j + c := fun z => h ⟨e.1, z⟩; omega⟩)]
set_option maxHeartbeats 4000000 in
set_option maxRecDepth 100000 in
theorem l_X10_copyA {X : KX} {J : KJ} {t : Nat} (C : Cx X RX10 cX10_copy 3) (K : Kx X) (hnL : xnL X = 10) {Q : Int32 → KI → KJ → KR → Prop} (E : Ei X .int Q) {I : KI} {k o i j n : Nat} (hk : k < 4) (ho : o < 4) (hi1 : i + n ≤ 100) (hj1 : j + n ≤ 100) (hij : j ≤ i) (hQ : Q (nI n) (mcp I k o i j 0 n) J (rf t)) : ∀ (f q : Nat), n - q < f → q ≤ n → Z X 0 0 (V X (mcp I k o i j 0 q) J (rf t)) 166 [(8, .int (nI q)), (0, .ref (xad X 85)), (1, .int (nI k)), (2, .int (nI i)), (3, .int (nI o)), (4, .int (nI j)), (5, .int (nI n)), (7, .int 0)] [] := by
  intro f
  induction f with
  | zero => intro q h; omega
  | succ f ih =>
    intro q hf hq
    refine z_iload (n := 168) C 0 dX10_copy_166 rfl rfl ?_
    refine z_iload (n := 170) C 6 dX10_copy_168 rfl rfl ?_
    refine z_icmp_ge (tgt := 227) (n := 173) C dX10_copy_170 rfl rfl (fun c170 => ?_) (fun c170 => ?_)
    · rw [fa_le, nI_toInt (by omega), nI_toInt (by omega)] at c170
      have e : q = n := by omega
      subst e
      refine z_iload (n := 229) C 6 dX10_copy_227 rfl rfl ?_
      refine z_iret C E dX10_copy_229 ?_
      exact hQ
    · rw [fa_le, nI_toInt (by omega), nI_toInt (by omega)] at c170
      refine z_iload (n := 175) C 7 dX10_copy_173 rfl rfl ?_
      refine z_ifT_eq (tgt := 188) C (by decide) dX10_copy_175 rfl ?_
      refine z_iload (n := 190) C 0 dX10_copy_188 rfl rfl ?_
      refine z_istore (n := 192) (L' := [(9, _), (8, _), (0, _), (1, _), (2, _), (3, _), (4, _), (5, _), (7, _)]) C dX10_copy_190 rfl (by rw [hnL]; decide) rfl ?_
      refine z_aload_n (n := 193) C 2 dX10_copy_192 rfl rfl ?_
      refine z_getR (n := 196) (q := 88) C K fF_RX10_16 dX10_copy_193 rfl rfl sh_85 (by decide) rfl ?_
      refine z_bipush (n := 198) (v := 100) C dX10_copy_196 rfl rfl ?_
      refine z_iload_n (n := 199) C 5 dX10_copy_198 rfl rfl ?_
      refine z_imul (n := 200) C dX10_copy_199 rfl ?_
      refine z_iload (n := 202) C 6 dX10_copy_200 rfl rfl ?_
      refine z_iadd (n := 203) C dX10_copy_202 rfl ?_
      refine z_iload (n := 205) C 0 dX10_copy_203 rfl rfl ?_
      refine z_iadd (n := 206) C dX10_copy_205 rfl ?_
      refine z_aload_n (n := 207) C 2 dX10_copy_206 rfl rfl ?_
      refine z_getR (n := 210) (q := 88) C K fF_RX10_16 dX10_copy_207 rfl rfl sh_85 (by decide) rfl ?_
      refine z_bipush (n := 212) (v := 100) C dX10_copy_210 rfl rfl ?_
      refine z_iload_n (n := 213) C 3 dX10_copy_212 rfl rfl ?_
      refine z_imul (n := 214) C dX10_copy_213 rfl ?_
      refine z_iload_n (n := 215) C 4 dX10_copy_214 rfl rfl ?_
      refine z_iadd (n := 216) C dX10_copy_215 rfl ?_
      refine z_iload (n := 218) C 0 dX10_copy_216 rfl rfl ?_
      refine z_iadd (n := 219) C dX10_copy_218 rfl ?_
      refine z_ialdN (n := 220) C K (100 * k + i + q) dX10_copy_219 rfl sh_88 (by decide) (by rw [show (100 : Int32) = nI 100 from rfl, mul_nI, nI_add, nI_add]) (by omega) (by decide) ?_
      rw [mcp_out I (by omega)]
      refine z_iastN (n := 221) C K (100 * o + j + q) dX10_copy_220 rfl sh_88 (by decide) (by rw [show (100 : Int32) = nI 100 from rfl, mul_nI, nI_add, nI_add]) (by omega) (by decide) ?_
      refine z_iincG (n := 224) (c := 1) (L' := [(8, _), (9, _), (0, _), (1, _), (2, _), (3, _), (4, _), (5, _), (7, _)]) C 1 dX10_copy_221 rfl rfl rfl (by rw [hnL]; decide) rfl ?_
      refine z_goto (n := 166) C dX10_copy_224 rfl ?_
      refine z_sub (L' := [(8, _), (0, _), (1, _), (2, _), (3, _), (4, _), (5, _), (7, _)]) [0, 2, 3, 4, 5, 6, 7, 8] rfl ?_
      rw [nI_1, mcp_up]
      exact ih (q + 1) (by omega) (by omega)
set_option maxHeartbeats 4000000 in
set_option maxRecDepth 100000 in
theorem l_X10_copyD {X : KX} {J : KJ} {t : Nat} (C : Cx X RX10 cX10_copy 3) (K : Kx X) (hnL : xnL X = 10) {Q : Int32 → KI → KJ → KR → Prop} (E : Ei X .int Q) {I : KI} {k o i j n : Nat} (hk : k < 4) (ho : o < 4) (hi1 : i + n ≤ 100) (hj1 : j + n ≤ 100) (hij : i < j) (hQ : Q (nI n) (mcp I k o i j 0 n) J (rf t)) : ∀ (f q : Nat), n - q < f → q ≤ n → Z X 0 0 (V X (mcp I k o i j (n - q) n) J (rf t)) 166 [(8, .int (nI q)), (0, .ref (xad X 85)), (1, .int (nI k)), (2, .int (nI i)), (3, .int (nI o)), (4, .int (nI j)), (5, .int (nI n)), (7, .int 1)] [] := by
  intro f
  induction f with
  | zero => intro q h; omega
  | succ f ih =>
    intro q hf hq
    refine z_iload (n := 168) C 0 dX10_copy_166 rfl rfl ?_
    refine z_iload (n := 170) C 6 dX10_copy_168 rfl rfl ?_
    refine z_icmp_ge (tgt := 227) (n := 173) C dX10_copy_170 rfl rfl (fun c170 => ?_) (fun c170 => ?_)
    · rw [fa_le, nI_toInt (by omega), nI_toInt (by omega)] at c170
      have e : q = n := by omega
      subst e
      refine z_iload (n := 229) C 6 dX10_copy_227 rfl rfl ?_
      refine z_iret C E dX10_copy_229 ?_
      rw [Nat.sub_self]
      exact hQ
    · rw [fa_le, nI_toInt (by omega), nI_toInt (by omega)] at c170
      refine z_iload (n := 175) C 7 dX10_copy_173 rfl rfl ?_
      refine z_ifF_eq (n := 178) (tgt := 188) C (by decide) dX10_copy_175 rfl rfl ?_
      refine z_iload (n := 180) C 6 dX10_copy_178 rfl rfl ?_
      refine z_iconst (n := 181) (v := 1) C dX10_copy_180 rfl rfl ?_
      refine z_isub (n := 182) C dX10_copy_181 rfl ?_
      refine z_iload (n := 184) C 0 dX10_copy_182 rfl rfl ?_
      refine z_isub (n := 185) C dX10_copy_184 rfl ?_
      refine z_goto (n := 190) C dX10_copy_185 rfl ?_
      rw [show (1 : Int32) = nI 1 from rfl, pk_sub (by omega), pk_sub (by omega)]
      refine z_istore (n := 192) (L' := [(9, _), (8, _), (0, _), (1, _), (2, _), (3, _), (4, _), (5, _), (7, _)]) C dX10_copy_190 rfl (by rw [hnL]; decide) rfl ?_
      refine z_aload_n (n := 193) C 2 dX10_copy_192 rfl rfl ?_
      refine z_getR (n := 196) (q := 88) C K fF_RX10_16 dX10_copy_193 rfl rfl sh_85 (by decide) rfl ?_
      refine z_bipush (n := 198) (v := 100) C dX10_copy_196 rfl rfl ?_
      refine z_iload_n (n := 199) C 5 dX10_copy_198 rfl rfl ?_
      refine z_imul (n := 200) C dX10_copy_199 rfl ?_
      refine z_iload (n := 202) C 6 dX10_copy_200 rfl rfl ?_
      refine z_iadd (n := 203) C dX10_copy_202 rfl ?_
      refine z_iload (n := 205) C 0 dX10_copy_203 rfl rfl ?_
      refine z_iadd (n := 206) C dX10_copy_205 rfl ?_
      refine z_aload_n (n := 207) C 2 dX10_copy_206 rfl rfl ?_
      refine z_getR (n := 210) (q := 88) C K fF_RX10_16 dX10_copy_207 rfl rfl sh_85 (by decide) rfl ?_
      refine z_bipush (n := 212) (v := 100) C dX10_copy_210 rfl rfl ?_
      refine z_iload_n (n := 213) C 3 dX10_copy_212 rfl rfl ?_
      refine z_imul (n := 214) C dX10_copy_213 rfl ?_
      refine z_iload_n (n := 215) C 4 dX10_copy_214 rfl rfl ?_
      refine z_iadd (n := 216) C dX10_copy_215 rfl ?_
      refine z_iload (n := 218) C 0 dX10_copy_216 rfl rfl ?_
      refine z_iadd (n := 219) C dX10_copy_218 rfl ?_
      refine z_ialdN (n := 220) C K (100 * k + i + (n - 1 - q)) dX10_copy_219 rfl sh_88 (by decide) (by rw [show (100 : Int32) = nI 100 from rfl, mul_nI, nI_add, nI_add]) (by omega) (by decide) ?_
      rw [mcp_out I (by omega)]
      refine z_iastN (n := 221) C K (100 * o + j + (n - 1 - q)) dX10_copy_220 rfl sh_88 (by decide) (by rw [show (100 : Int32) = nI 100 from rfl, mul_nI, nI_add, nI_add]) (by omega) (by decide) ?_
      refine z_iincG (n := 224) (c := 1) (L' := [(8, _), (9, _), (0, _), (1, _), (2, _), (3, _), (4, _), (5, _), (7, _)]) C 1 dX10_copy_221 rfl rfl rfl (by rw [hnL]; decide) rfl ?_
      refine z_goto (n := 166) C dX10_copy_224 rfl ?_
      refine z_sub (L' := [(8, _), (0, _), (1, _), (2, _), (3, _), (4, _), (5, _), (7, _)]) [0, 2, 3, 4, 5, 6, 7, 8] rfl ?_
      have e1 : n - q = n - 1 - q + 1 := by omega
      rw [nI_1, e1, mcp_dn I k o i j n (by omega)]
      have h1 := ih (q + 1) (by omega) (by omega)
      rw [show n - (q + 1) = n - 1 - q by omega] at h1
      exact h1
