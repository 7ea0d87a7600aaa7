/-- row and column c of the ties up to i are 0 -/
def tcl (I : KI) (c i : Nat) : KI := fun q j => if q = 100 ∧ ((10 * c ≤ j ∧ j < 10 * c + i) ∨ (j % 10 = c ∧ j / 10 < i)) then 0 else I q j
theorem tcl_0 (I : KI) (c : Nat) : tcl I c 0 = I := by
  funext q j; unfold tcl; rw [if_neg]; omega
theorem tcl_s (I : KI) {c i : Nat} (hc : c < 10) (hi : i < 10) : upI (upI (tcl I c i) 100 (10 * c + i) 0) 100 (10 * i + c) 0 = tcl I c (i + 1) := by
  funext q j
  unfold upI tcl
  by_cases hq : q = 100
  · by_cases h1 : j = 10 * i + c
    · subst h1
      rw [if_pos ⟨hq, rfl⟩, if_pos ⟨hq, Or.inr (by omega)⟩]
    · rw [if_neg (fun e => h1 e.2)]
      by_cases h2 : j = 10 * c + i
      · subst h2
        rw [if_pos ⟨hq, rfl⟩, if_pos ⟨hq, Or.inl (by omega)⟩]
      · rw [if_neg (fun e => h2 e.2)]
        by_cases h3 : (10 * c ≤ j ∧ j < 10 * c + i) ∨ (j % 10 = c ∧ j / 10 < i)
        · rw [if_pos ⟨hq, h3⟩, if_pos ⟨hq, by omega⟩]
        · rw [if_neg (fun e => h3 e.2), if_neg (fun e => h3 (by omega))]
  · simp [hq]
theorem tcl_p (I : KI) {c i q : Nat} (h : q ≠ 100) : tcl I c i q = I q := by funext j; unfold tcl; simp [h]
set_option maxHeartbeats 4000000 in
set_option maxRecDepth 100000 in
theorem l_X10_child {X : KX} {J : KJ} {t : Nat} (C : Cx X RX10 cX10_child 3) (K : Kx X) (hnL : xnL X = 6) {Q : Int32 → KI → KJ → KR → Prop} (E : Ei X .int Q) {I : KI} {c : Nat} (hc : c < 10) (h19 : I 85 19 = nI c) {a1 a2 a3 a4 : Int32} (hQ : Q (nI c) (upI (tcl I c 10) 85 19 (nI (c + 1))) J (rf t)) : ∀ (f : Nat) (i : Nat), 10 - i < f → i ≤ 10 → Z X 0 0 (V X (tcl I c i) J (rf t)) 99 [(5, .int (nI i)), (0, .ref (xad X 85)), (1, .int a1), (2, .int a2), (3, .int a3), (4, .int a4)] [] := by
  intro f
  induction f with
  | zero => intro i h; omega
  | succ f ih =>
    intro i hf hi
    refine z_iload (n := 101) C 0 dX10_child_99 rfl rfl ?_
    refine z_bipush (n := 103) (v := 10) C dX10_child_101 rfl rfl ?_
    refine z_icmp_ge (tgt := 144) (n := 106) C dX10_child_103 rfl rfl (fun c103 => ?_) (fun c103 => ?_)
    · rw [fa_le, nI_toInt (by omega)] at c103
      simp only [Int32.reduceToInt] at c103
      have e : i = 10 := by omega
      subst e
      have e1 : tcl I c 10 85 19 = nI c := by rw [tcl_p _ (by decide)]; exact h19
      refine z_aload_n (n := 145) C 1 dX10_child_144 rfl rfl ?_
      refine z_dup (n := 146) C dX10_child_145 rfl rfl ?_
      refine z_getI (n := 149) C K fF_RX10_133 dX10_child_146 rfl sh_85 (by decide) ?_
      refine z_iconst (n := 150) (v := 1) C dX10_child_149 rfl rfl ?_
      refine z_iadd (n := 151) C dX10_child_150 rfl ?_
      refine z_putI (n := 154) C K fF_RX10_133 dX10_child_151 rfl sh_85 (by decide) ?_
      refine z_aload_n (n := 155) C 1 dX10_child_154 rfl rfl ?_
      refine z_getI (n := 158) C K fF_RX10_133 dX10_child_155 rfl sh_85 (by decide) ?_
      refine z_iconst (n := 159) (v := 1) C dX10_child_158 rfl rfl ?_
      refine z_isub (n := 160) C dX10_child_159 rfl ?_
      refine z_iret C E dX10_child_160 ?_
      rw [upI_same, e1, nI_1, nI_pred]
      exact hQ
    · rw [fa_le, nI_toInt (by omega)] at c103
      simp only [Int32.reduceToInt] at c103
      have e1 : tcl I c i 85 19 = nI c := by rw [tcl_p _ (by decide)]; exact h19
      refine z_aload_n (n := 107) C 1 dX10_child_106 rfl rfl ?_
      refine z_getR (n := 110) (q := 100) C K fF_RX10_52 dX10_child_107 rfl rfl sh_85 (by decide) rfl ?_
      refine z_bipush (n := 112) (v := 10) C dX10_child_110 rfl rfl ?_
      refine z_aload_n (n := 113) C 1 dX10_child_112 rfl rfl ?_
      refine z_getI (n := 116) C K fF_RX10_133 dX10_child_113 rfl sh_85 (by decide) ?_
      refine z_imul (n := 117) C dX10_child_116 rfl ?_
      refine z_iload (n := 119) C 0 dX10_child_117 rfl rfl ?_
      refine z_iadd (n := 120) C dX10_child_119 rfl ?_
      refine z_iconst (n := 121) (v := 0) C dX10_child_120 rfl rfl ?_
      refine z_iastN (n := 122) C K (10 * c + i) dX10_child_121 rfl sh_100 (by decide) (by rw [e1, show (10 : Int32) = nI 10 from rfl, mul_nI, nI_add]) (by omega) (by decide) ?_
      refine z_aload_n (n := 123) C 1 dX10_child_122 rfl rfl ?_
      refine z_getR (n := 126) (q := 100) C K fF_RX10_52 dX10_child_123 rfl rfl sh_85 (by decide) rfl ?_
      refine z_bipush (n := 128) (v := 10) C dX10_child_126 rfl rfl ?_
      refine z_iload (n := 130) C 0 dX10_child_128 rfl rfl ?_
      refine z_imul (n := 131) C dX10_child_130 rfl ?_
      refine z_aload_n (n := 132) C 1 dX10_child_131 rfl rfl ?_
      refine z_getI (n := 135) C K fF_RX10_133 dX10_child_132 rfl sh_85 (by decide) ?_
      refine z_iadd (n := 136) C dX10_child_135 rfl ?_
      refine z_iconst (n := 137) (v := 0) C dX10_child_136 rfl rfl ?_
      refine z_iastN (n := 138) C K (10 * i + c) dX10_child_137 rfl sh_100 (by decide) (by rw [upI_p _ _ (by decide), e1, show (10 : Int32) = nI 10 from rfl, mul_nI, nI_add]) (by omega) (by decide) ?_
      refine z_iincG (n := 141) (c := 1) (L' := [(5, _), (0, _), (1, _), (2, _), (3, _), (4, _)]) C 0 dX10_child_138 rfl rfl rfl (by rw [hnL]; decide) rfl ?_
      refine z_goto (n := 99) C dX10_child_141 rfl ?_
      rw [nI_1, tcl_s I hc (by omega)]
      exact ih (i + 1) (by omega) (by omega)
set_option maxHeartbeats 4000000 in
set_option maxRecDepth 100000 in
theorem c_X10_child {ad : Nat → Nat} {I : KI} {J : KJ} {t : Nat} {c : Nat} {ki co ag re : Nat → Nat} {T : Nat → Nat → Nat}(hk : mKd I c ki co ag re T){n : Nat} (ok : okKd n c ki co ag re T){s r : Nat} {rd : Nat → Nat → Nat} (hw : mTw I n r s rd) (hn7 : n ≤ 7) {kd cr av rv : Int32} {Q : Int32 → KI → KJ → KR → Prop} (hR : ∀ a, childR n c kd cr av rv = some a → Q a I J (rf t)) (hS : childR n c kd cr av rv = none → ∀ k o a r2 : Nat, kd = nI k → cr = nI o → av = nI a → rv = nI r2 → k < 3 → o < n → 4 ≤ a → a ≤ 11 → r2 ≤ 60 → c < 10 → ∀ I', (∀ p, p ≠ 85 → ¬ (96 ≤ p ∧ p ≤ 100) → I' p = I p) → (∀ j, j ≠ 19 → I' 85 j = I 85 j) → mKd I' (c + 1) (fu ki c k) (fu co c o) (fu ag c a) (fu re c r2) (Tnew T c) → Q (nI c) I' J (rf t)) : Mi 3 yX10_child (wm yX10_child cX10_child 6 (some .int)) [.ref (ad 85), .int (kd), .int (cr), .int (av), .int (rv)] ad I J (rf t) Q := by
  refine mi_of (own := RX10) yk_X10_child rfl (Nat.le_of_ble_eq_true rfl) rfl (fun X hA hnL C K E => ?_)
  subst hA
  refine z_aload_n (n := 1) C 0 dX10_child_0 rfl rfl ?_
  refine z_iload_n (n := 2) C 2 dX10_child_1 rfl rfl ?_
  refine z_vi_1 (n := 5) (d' := 1) C K dX10_child_2 rfl yk_X10_isCorner yv_X10_isCorner kM_RX10_159 (by decide) hR0 rfl rfl sh_85 (by decide) (by decide) ?_
  refine c_X10_isCorner hw.1 hn7 (fun b2 => ?_) (fun b2 => ?_)
  · refine z_ifT_ne (tgt := 10) C (by decide) dX10_child_5 rfl ?_
    refine z_iload_n (n := 11) C 1 dX10_child_10 rfl rfl ?_
    refine z_iconst (n := 12) (v := 0) C dX10_child_11 rfl rfl ?_
    refine z_iconst (n := 13) (v := 2) C dX10_child_12 rfl rfl ?_
    refine z_si_3 (n := 16) (d' := 1) C K dX10_child_13 rfl yk_X10_within kT_yX10_within kM_RX10_92 (by decide) hR0 rfl ?_
    refine m_inB (lo := 0) (hi := 2) (by decide) (by decide) (fun b13 => ?_) (fun b13 => ?_)
    · refine z_ifF_eq (n := 19) (tgt := 40) C (by decide) dX10_child_16 rfl rfl ?_
      refine z_iload_n (n := 20) C 3 dX10_child_19 rfl rfl ?_
      refine z_iconst (n := 21) (v := 4) C dX10_child_20 rfl rfl ?_
      refine z_bipush (n := 23) (v := 11) C dX10_child_21 rfl rfl ?_
      refine z_si_3 (n := 26) (d' := 1) C K dX10_child_23 rfl yk_X10_within kT_yX10_within kM_RX10_92 (by decide) hR0 rfl ?_
      refine m_inB (lo := 4) (hi := 11) (by decide) (by decide) (fun b23 => ?_) (fun b23 => ?_)
      · refine z_ifF_eq (n := 29) (tgt := 40) C (by decide) dX10_child_26 rfl rfl ?_
        refine z_iload (n := 31) C 4 dX10_child_29 rfl rfl ?_
        refine z_iconst (n := 32) (v := 0) C dX10_child_31 rfl rfl ?_
        refine z_bipush (n := 34) (v := 60) C dX10_child_32 rfl rfl ?_
        refine z_si_3 (n := 37) (d' := 1) C K dX10_child_34 rfl yk_X10_within kT_yX10_within kM_RX10_92 (by decide) hR0 rfl ?_
        refine m_inB (lo := 0) (hi := 60) (by decide) (by decide) (fun b34 => ?_) (fun b34 => ?_)
        · refine z_ifT_ne (tgt := 43) C (by decide) dX10_child_37 rfl ?_
          refine z_aload_n (n := 44) C 0 dX10_child_43 rfl rfl ?_
          refine z_getI (n := 47) C K fF_RX10_133 dX10_child_44 rfl sh_85 (by decide) ?_
          refine z_bipush (n := 49) (v := 10) C dX10_child_47 rfl rfl ?_
          refine z_icmp_ne (tgt := 55) (n := 52) C dX10_child_49 rfl rfl (fun c49 => ?_) (fun c49 => ?_)
          · have hc10 : c < 10 := by
              have h1 := ok.1
              have h2 : ¬ c = 10 := fun e => c49 (by rw [hk.1, e]; rfl)
              omega
            have hnone : childR n c kd cr av rv = none := by
              unfold childR
              rw [if_neg (fun q => q b2), if_neg (fun q => q ⟨b13, b23, b34⟩), if_neg (by omega)]
            obtain ⟨k, hk3, rfl⟩ := isB_of (h := 2) b13
            obtain ⟨o, ho, rfl⟩ := isN_of b2
            obtain ⟨a, ha, rfl⟩ := i_natlt (n := 12) (x := av) (by have := b23.1; omega) (by have := b23.2; omega)
            obtain ⟨r2, hr2, rfl⟩ := isB_of (h := 60) b34
            have ha4 : 4 ≤ a := by have := b23.1; rw [nI_toInt (by omega)] at this; omega
            refine z_aload_n (n := 56) C 0 dX10_child_55 rfl rfl ?_
            refine z_getR (n := 59) (q := 96) C K fF_RX10_40 dX10_child_56 rfl rfl sh_85 (by decide) rfl ?_
            refine z_aload_n (n := 60) C 0 dX10_child_59 rfl rfl ?_
            refine z_getI (n := 63) C K fF_RX10_133 dX10_child_60 rfl sh_85 (by decide) ?_
            refine z_iload_n (n := 64) C 1 dX10_child_63 rfl rfl ?_
            refine z_iastN (n := 65) C K c dX10_child_64 rfl sh_96 (by decide) hk.1 hc10 (by decide) ?_
            refine z_aload_n (n := 66) C 0 dX10_child_65 rfl rfl ?_
            refine z_getR (n := 69) (q := 97) C K fF_RX10_43 dX10_child_66 rfl rfl sh_85 (by decide) rfl ?_
            refine z_aload_n (n := 70) C 0 dX10_child_69 rfl rfl ?_
            refine z_getI (n := 73) C K fF_RX10_133 dX10_child_70 rfl sh_85 (by decide) ?_
            refine z_iload_n (n := 74) C 2 dX10_child_73 rfl rfl ?_
            refine z_iastN (n := 75) C K c dX10_child_74 rfl sh_97 (by decide) (by rw [upI_p _ _ (by decide)]; exact hk.1) hc10 (by decide) ?_
            refine z_aload_n (n := 76) C 0 dX10_child_75 rfl rfl ?_
            refine z_getR (n := 79) (q := 98) C K fF_RX10_46 dX10_child_76 rfl rfl sh_85 (by decide) rfl ?_
            refine z_aload_n (n := 80) C 0 dX10_child_79 rfl rfl ?_
            refine z_getI (n := 83) C K fF_RX10_133 dX10_child_80 rfl sh_85 (by decide) ?_
            refine z_iload_n (n := 84) C 3 dX10_child_83 rfl rfl ?_
            refine z_iastN (n := 85) C K c dX10_child_84 rfl sh_98 (by decide) (by rw [upI_p _ _ (by decide), upI_p _ _ (by decide)]; exact hk.1) hc10 (by decide) ?_
            refine z_aload_n (n := 86) C 0 dX10_child_85 rfl rfl ?_
            refine z_getR (n := 89) (q := 99) C K fF_RX10_49 dX10_child_86 rfl rfl sh_85 (by decide) rfl ?_
            refine z_aload_n (n := 90) C 0 dX10_child_89 rfl rfl ?_
            refine z_getI (n := 93) C K fF_RX10_133 dX10_child_90 rfl sh_85 (by decide) ?_
            refine z_iload (n := 95) C 4 dX10_child_93 rfl rfl ?_
            refine z_iastN (n := 96) C K c dX10_child_95 rfl sh_99 (by decide) (by rw [upI_p _ _ (by decide), upI_p _ _ (by decide), upI_p _ _ (by decide)]; exact hk.1) hc10 (by decide) ?_
            refine z_iconst (n := 97) (v := 0) C dX10_child_96 rfl rfl ?_
            refine z_istore (n := 99) (L' := [(5, _), (0, _), (1, _), (2, _), (3, _), (4, _)]) C dX10_child_97 rfl (by rw [hnL]; decide) rfl ?_
            have h1 := l_X10_child (J := J) (t := t) (I := upI (upI (upI (upI I 96 c (nI k)) 97 c (nI o)) 98 c (nI a)) 99 c (nI r2)) (c := c) (a1 := nI k) (a2 := nI o) (a3 := nI a) (a4 := nI r2) C K hnL E hc10 (by rw [upI_p _ _ (by decide), upI_p _ _ (by decide), upI_p _ _ (by decide), upI_p _ _ (by decide)]; exact hk.1) ?_ 11 0 (by omega) (by omega)
            · rw [tcl_0] at h1
              exact h1
            refine hS hnone k o a r2 rfl rfl rfl rfl (by omega) ho ha4 (by omega) hr2 hc10 _ (fun q h0 h1 => ?_) (fun j hj => ?_) ⟨?_, fun x hx => ?_, fun x y hx hy => ?_⟩
            · rw [upI_row _ _ h0, tcl_p _ (by omega), upI_row _ _ (by omega), upI_row _ _ (by omega), upI_row _ _ (by omega), upI_row _ _ (by omega)]
            · rw [upI_k _ _ hj, tcl_p _ (by omega), upI_p _ _ (by omega), upI_p _ _ (by omega), upI_p _ _ (by omega), upI_p _ _ (by omega)]
            · rw [upI_same]
            · rw [upI_row _ _ (show 96 ≠ 85 by omega), upI_row _ _ (show 97 ≠ 85 by omega), upI_row _ _ (show 98 ≠ 85 by omega), upI_row _ _ (show 99 ≠ 85 by omega), tcl_p _ (show 96 ≠ 100 by omega), tcl_p _ (show 97 ≠ 100 by omega), tcl_p _ (show 98 ≠ 100 by omega), tcl_p _ (show 99 ≠ 100 by omega)]
              by_cases hxc : x = c
              · subst hxc
                simp [upI, fu_same]
              · have hz := hk.2.1 x (by omega)
                simp only [upI, hxc, and_false, if_false, fu_ne _ _ hxc]
                exact hz
            · rw [upI_row _ _ (show 100 ≠ 85 by omega)]
              unfold tcl Tnew
              by_cases h1 : x = c ∨ y = c
              · rw [if_pos ⟨rfl, by omega⟩, if_pos h1]; rfl
              · rw [if_neg (by omega), if_neg h1, upI_p _ _ (by omega), upI_p _ _ (by omega), upI_p _ _ (by omega), upI_p _ _ (by omega)]
                exact hk.2.2 x y (by omega) (by omega)
          · refine z_bipush (n := 54) (v := (-4)) C dX10_child_52 rfl rfl ?_
            refine z_iret C E dX10_child_54 ?_
            have h10 : c = 10 := nI_inj (b := 10) (hk.1.symm.trans c49) (by have := ok.1; omega) (by decide)
            exact hR _ (by
              unfold childR
              rw [if_neg (fun q => q b2), if_neg (fun q => q ⟨b13, b23, b34⟩), if_pos h10])
        · refine z_ifF_ne (n := 40) (tgt := 43) C (by decide) dX10_child_37 rfl rfl ?_
          refine z_bipush (n := 42) (v := (-2)) C dX10_child_40 rfl rfl ?_
          refine z_iret C E dX10_child_42 ?_
          exact hR _ (by
            unfold childR
            rw [if_neg (fun q => q b2), if_pos (fun q => by first | exact b13 q.1 | exact b23 q.2.1 | exact b34 q.2.2)])
      · refine z_ifT_eq (tgt := 40) C (by decide) dX10_child_26 rfl ?_
        refine z_bipush (n := 42) (v := (-2)) C dX10_child_40 rfl rfl ?_
        refine z_iret C E dX10_child_42 ?_
        exact hR _ (by
          unfold childR
          rw [if_neg (fun q => q b2), if_pos (fun q => by first | exact b13 q.1 | exact b23 q.2.1 | exact b34 q.2.2)])
    · refine z_ifT_eq (tgt := 40) C (by decide) dX10_child_16 rfl ?_
      refine z_bipush (n := 42) (v := (-2)) C dX10_child_40 rfl rfl ?_
      refine z_iret C E dX10_child_42 ?_
      exact hR _ (by
        unfold childR
        rw [if_neg (fun q => q b2), if_pos (fun q => by first | exact b13 q.1 | exact b23 q.2.1 | exact b34 q.2.2)])
  · refine z_ifF_ne (n := 8) (tgt := 10) C (by decide) dX10_child_5 rfl rfl ?_
    refine z_iconst (n := 9) (v := (-1)) C dX10_child_8 rfl rfl ?_
    refine z_iret C E dX10_child_9 ?_
    exact hR _ (by unfold childR; rw [if_pos b2])
set_option maxHeartbeats 4000000 in
set_option maxRecDepth 100000 in
theorem l_X10_grownOf {X : KX} {J : KJ} {t : Nat} (C : Cx X RX10 cX10_grownOf 2) (K : Kx X) (hnL : xnL X = 4) {Q : Int32 → KI → KJ → KR → Prop} (E : Ei X .int Q) {I : KI} {c : Nat} {ki co ag re : Nat → Nat} {T : Nat → Nat → Nat}(hk : mKd I c ki co ag re T){n : Nat} (ok : okKd n c ki co ag re T){h hc : Nat} {hd : Nat → Nat} (hm : mMi I h hc hd) (hok : okMi h hc hd){m : Nat} (hm2 : m < 2 ^ 31) (hQ : Q (nI (grS ki c h m)) I J (rf t)) : ∀ (f : Nat) (i : Nat), c - i < f → i ≤ c → Z X 0 0 (V X I J (rf t)) 4 [(3, .int (nI i)), (2, .int (nI (hdS ki m i))), (0, .ref (xad X 85)), (1, .int (nI m))] [] := by
  intro f
  induction f with
  | zero => intro i h; omega
  | succ f ih =>
    intro i hf hi
    have hc10 := ok.1
    refine z_iload_n (n := 5) C 0 dX10_grownOf_4 rfl rfl ?_
    refine z_aload_n (n := 6) C 2 dX10_grownOf_5 rfl rfl ?_
    refine z_getI (n := 9) C K fF_RX10_133 dX10_grownOf_6 rfl sh_85 (by decide) ?_
    refine z_icmp_ge (tgt := 44) (n := 12) C dX10_grownOf_9 rfl rfl (fun c9 => ?_) (fun c9 => ?_)
    · rw [hk.1, fa_le, nI_toInt (by omega), nI_toInt (by omega)] at c9
      have e : i = c := by omega
      subst e
      have hle := hdS_le ki m i
      refine z_iload_n (n := 45) C 1 dX10_grownOf_44 rfl rfl ?_
      refine z_aload_n (n := 46) C 2 dX10_grownOf_45 rfl rfl ?_
      refine z_getI (n := 49) C K fF_RX10_68 dX10_grownOf_46 rfl sh_85 (by decide) ?_
      refine z_iadd (n := 50) C dX10_grownOf_49 rfl ?_
      refine z_iconst (n := 51) (v := 1) C dX10_grownOf_50 rfl rfl ?_
      refine z_isub (n := 52) C dX10_grownOf_51 rfl ?_
      refine z_aload_n (n := 53) C 2 dX10_grownOf_52 rfl rfl ?_
      refine z_getI (n := 56) C K fF_RX10_68 dX10_grownOf_53 rfl sh_85 (by decide) ?_
      refine z_idiv (n := 57) C dX10_grownOf_56 rfl (by rw [hm.1]; exact nI_ne0 hok.1 (by have := hok.2.1; omega)) ?_
      refine z_iret C E dX10_grownOf_57 ?_
      rw [hm.1, nI_add, show (1 : Int32) = nI 1 from rfl, pk_sub (by have := hok.1; omega), pk_div (by have := hok.2.1; omega) hok.1 (by have := hok.2.1; omega)]
      exact hQ
    · rw [hk.1, fa_le, nI_toInt (by omega), nI_toInt (by omega)] at c9
      have hx : i < 10 := by omega
      have hz := hk.2.1 i (by omega)
      have hb := ok.2.1 i (by omega)
      refine z_iload_n (n := 13) C 3 dX10_grownOf_12 rfl rfl ?_
      refine z_iload_n (n := 14) C 0 dX10_grownOf_13 rfl rfl ?_
      refine z_si_2 (n := 17) (d' := 1) C K dX10_grownOf_14 rfl yk_X10_has kT_yX10_has kM_RX10_178 (by decide) hR0 rfl ?_
      refine c_X10_has hm2 (by omega) (fun b14 => ?_) (fun b14 => ?_)
      · refine z_ifF_eq (n := 20) (tgt := 38) C (by decide) dX10_grownOf_17 rfl rfl ?_
        refine z_iload_n (n := 21) C 1 dX10_grownOf_20 rfl rfl ?_
        refine z_aload_n (n := 22) C 2 dX10_grownOf_21 rfl rfl ?_
        refine z_getR (n := 25) (q := 96) C K fF_RX10_40 dX10_grownOf_22 rfl rfl sh_85 (by decide) rfl ?_
        refine z_iload_n (n := 26) C 0 dX10_grownOf_25 rfl rfl ?_
        refine z_ialdN (n := 27) C K i dX10_grownOf_26 rfl sh_96 (by decide) rfl hx (by decide) ?_
        refine z_iconst (n := 28) (v := 2) C dX10_grownOf_27 rfl rfl ?_
        refine z_icmp_ne (tgt := 35) (n := 31) C dX10_grownOf_28 rfl rfl (fun c28 => ?_) (fun c28 => ?_)
        · refine z_iconst (n := 36) (v := 1) C dX10_grownOf_35 rfl rfl ?_
          refine z_iadd (n := 37) C dX10_grownOf_36 rfl ?_
          refine z_istore_n (n := 38) (L' := [(2, _), (3, _), (0, _), (1, _)]) C dX10_grownOf_37 rfl (by rw [hnL]; decide) rfl ?_
          refine z_iincG (n := 41) (c := 1) (L' := [(3, _), (2, _), (0, _), (1, _)]) C 1 dX10_grownOf_38 rfl rfl rfl (by rw [hnL]; decide) rfl ?_
          refine z_goto (n := 4) C dX10_grownOf_41 rfl ?_
          have e2 : hdS ki m (i + 1) = hdS ki m i + if m.testBit i then (if ki i = 2 then 3 else 1) else 0 := rfl
          have h3 : ¬ ki i = 2 := fun e => c28 (by rw [hz.1, e]; rfl)
          rw [nI_1, nI_1, show nI (hdS ki m i + 1) = nI (hdS ki m (i + 1)) by rw [e2, b14, if_pos rfl, if_neg h3]]
          exact ih (i + 1) (by omega) (by omega)
        · refine z_iconst (n := 32) (v := 3) C dX10_grownOf_31 rfl rfl ?_
          refine z_goto (n := 36) C dX10_grownOf_32 rfl ?_
          refine z_iadd (n := 37) C dX10_grownOf_36 rfl ?_
          refine z_istore_n (n := 38) (L' := [(2, _), (3, _), (0, _), (1, _)]) C dX10_grownOf_37 rfl (by rw [hnL]; decide) rfl ?_
          refine z_iincG (n := 41) (c := 1) (L' := [(3, _), (2, _), (0, _), (1, _)]) C 1 dX10_grownOf_38 rfl rfl rfl (by rw [hnL]; decide) rfl ?_
          refine z_goto (n := 4) C dX10_grownOf_41 rfl ?_
          have e2 : hdS ki m (i + 1) = hdS ki m i + if m.testBit i then (if ki i = 2 then 3 else 1) else 0 := rfl
          have h3 : ki i = 2 := nI_inj (b := 2) (hz.1.symm.trans c28) (by omega) (by decide)
          rw [nI_1, show (3 : Int32) = nI 3 from rfl, nI_add, show nI (hdS ki m i + 3) = nI (hdS ki m (i + 1)) by rw [e2, b14, if_pos rfl, if_pos h3]]
          exact ih (i + 1) (by omega) (by omega)
      · refine z_ifT_eq (tgt := 38) C (by decide) dX10_grownOf_17 rfl ?_
        refine z_iincG (n := 41) (c := 1) (L' := [(3, _), (2, _), (0, _), (1, _)]) C 0 dX10_grownOf_38 rfl rfl rfl (by rw [hnL]; decide) rfl ?_
        refine z_goto (n := 4) C dX10_grownOf_41 rfl ?_
        have e2 : hdS ki m (i + 1) = hdS ki m i + if m.testBit i then (if ki i = 2 then 3 else 1) else 0 := rfl
        rw [nI_1, show nI (hdS ki m i) = nI (hdS ki m (i + 1)) by rw [e2, b14]; rfl]
        exact ih (i + 1) (by omega) (by omega)
set_option maxHeartbeats 4000000 in
set_option maxRecDepth 100000 in
theorem c_X10_grownOf {ad : Nat → Nat} {I : KI} {J : KJ} {t : Nat} {c : Nat} {ki co ag re : Nat → Nat} {T : Nat → Nat → Nat}(hk : mKd I c ki co ag re T){n : Nat} (ok : okKd n c ki co ag re T){h hc : Nat} {hd : Nat → Nat} (hm : mMi I h hc hd) (hok : okMi h hc hd){m : Nat} (hm2 : m < 2 ^ 31) {Q : Int32 → KI → KJ → KR → Prop} (hQ : Q (nI (grS ki c h m)) I J (rf t)) : Mi 2 yX10_grownOf (wm yX10_grownOf cX10_grownOf 4 (some .int)) [.ref (ad 85), .int (nI m)] ad I J (rf t) Q := by
  refine mi_of (own := RX10) yk_X10_grownOf rfl (Nat.le_of_ble_eq_true rfl) rfl (fun X hA hnL C K E => ?_)
  subst hA
  refine z_iconst (n := 1) (v := 0) C dX10_grownOf_0 rfl rfl ?_
  refine z_istore_n (n := 2) (L' := [(2, _), (0, _), (1, _)]) C dX10_grownOf_1 rfl (by rw [hnL]; decide) rfl ?_
  refine z_iconst (n := 3) (v := 0) C dX10_grownOf_2 rfl rfl ?_
  refine z_istore_n (n := 4) (L' := [(3, _), (2, _), (0, _), (1, _)]) C dX10_grownOf_3 rfl (by rw [hnL]; decide) rfl ?_
  exact l_X10_grownOf C K hnL E hk ok hm hok hm2 hQ (c + 1) 0 (by omega) (by omega)
set_option maxHeartbeats 4000000 in
set_option maxRecDepth 100000 in
theorem c_X10_grown {ad : Nat → Nat} {I : KI} {J : KJ} {t : Nat} {c : Nat} {ki co ag re : Nat → Nat} {T : Nat → Nat → Nat}(hk : mKd I c ki co ag re T){n : Nat} (ok : okKd n c ki co ag re T){h hc : Nat} {hd : Nat → Nat} (hm : mMi I h hc hd) (hok : okMi h hc hd){s : Int32} {Q : Int32 → KI → KJ → KR → Prop} (hR : ¬ isS c s → Q (-2) I J (rf t)) (hS : ∀ m, 0 < m → m < 2 ^ c → s = nI m → Q (nI (grS ki c h m)) I J (rf t)) : Mi 3 yX10_grown (wm yX10_grown cX10_grown 2 (some .int)) [.ref (ad 85), .int (s)] ad I J (rf t) Q := by
  refine mi_of (own := RX10) yk_X10_grown rfl (Nat.le_of_ble_eq_true rfl) rfl (fun X hA hnL C K E => ?_)
  subst hA
  refine z_aload_n (n := 1) C 0 dX10_grown_0 rfl rfl ?_
  refine z_iload_n (n := 2) C 1 dX10_grown_1 rfl rfl ?_
  refine z_vi_1 (n := 5) (d' := 1) C K dX10_grown_2 rfl yk_X10_isSet yv_X10_isSet kM_RX10_217 (by decide) hR0 rfl rfl sh_85 (by decide) (by decide) ?_
  refine c_X10_isSet hk.1 ok.1 (fun b2 => ?_) (fun b2 => ?_)
  · refine z_ifF_eq (n := 8) (tgt := 16) C (by decide) dX10_grown_5 rfl rfl ?_
    obtain ⟨m, hm0, hm1, rfl⟩ := b2
    have h10 : (2 : Nat) ^ c ≤ 2 ^ 10 := Nat.pow_le_pow_right (by decide) ok.1
    refine z_aload_n (n := 9) C 0 dX10_grown_8 rfl rfl ?_
    refine z_iload_n (n := 10) C 1 dX10_grown_9 rfl rfl ?_
    refine z_vi_1 (n := 13) (d' := 2) C K dX10_grown_10 rfl yk_X10_grownOf yv_X10_grownOf kM_RX10_262 (by decide) hR0 rfl rfl sh_85 (by decide) (by decide) ?_
    refine c_X10_grownOf hk ok hm hok (by omega) ?_
    refine z_goto (n := 18) C dX10_grown_13 rfl ?_
    refine z_iret C E dX10_grown_18 ?_
    exact hS m hm0 hm1 rfl
  · refine z_ifT_eq (tgt := 16) C (by decide) dX10_grown_5 rfl ?_
    refine z_bipush (n := 18) (v := (-2)) C dX10_grown_16 rfl rfl ?_
    refine z_iret C E dX10_grown_18 ?_
    exact hR b2
set_option maxHeartbeats 4000000 in
set_option maxRecDepth 100000 in
theorem c_X10_tell {ad : Nat → Nat} {I : KI} {J : KJ} {t : Nat} {c : Nat} {ki co ag re : Nat → Nat} {T : Nat → Nat → Nat}(hk : mKd I c ki co ag re T){n : Nat} (ok : okKd n c ki co ag re T){xv : Int32} {Q : Int32 → KI → KJ → KR → Prop} (hR : ¬ isN c xv → Q (-1) I J (rf t)) (hS : ∀ x, xv = nI x → x < c → Q (tellS ki ag x (I 85 1)).1 (upI I 85 1 (tellS ki ag x (I 85 1)).2) J (rf t)) : Mi 5 yX10_tell (wm yX10_tell cX10_tell 3 (some .int)) [.ref (ad 85), .int (xv)] ad I J (rf t) Q := by
  refine mi_of (own := RX10) yk_X10_tell rfl (Nat.le_of_ble_eq_true rfl) rfl (fun X hA hnL C K E => ?_)
  subst hA
  refine z_aload_n (n := 1) C 0 dX10_tell_0 rfl rfl ?_
  refine z_iload_n (n := 2) C 1 dX10_tell_1 rfl rfl ?_
  refine z_vi_1 (n := 5) (d' := 1) C K dX10_tell_2 rfl yk_X10_isChild yv_X10_isChild kM_RX10_169 (by decide) hR0 rfl rfl sh_85 (by decide) (by decide) ?_
  refine c_X10_isChild hk.1 ok.1 (fun b2 => ?_) (fun b2 => ?_)
  · refine z_ifT_ne (tgt := 10) C (by decide) dX10_tell_5 rfl ?_
    obtain ⟨x, hxc, rfl⟩ := isN_of b2
    have hx : x < 10 := by have := ok.1; omega
    have hz := hk.2.1 x hxc
    have hb := ok.2.1 x hxc
    have e : ki x = 0 ∨ ki x = 1 ∨ ki x = 2 := by omega
    refine z_aload_n (n := 11) C 0 dX10_tell_10 rfl rfl ?_
    refine z_getR (n := 14) (q := 98) C K fF_RX10_46 dX10_tell_11 rfl rfl sh_85 (by decide) rfl ?_
    refine z_iload_n (n := 15) C 1 dX10_tell_14 rfl rfl ?_
    refine z_ialdN (n := 16) C K x dX10_tell_15 rfl sh_98 (by decide) rfl hx (by decide) ?_
    refine z_istore_n (n := 17) (L' := [(2, _), (0, _), (1, _)]) C dX10_tell_16 rfl (by rw [hnL]; decide) rfl ?_
    refine z_aload_n (n := 18) C 1 dX10_tell_17 rfl rfl ?_
    refine z_getR (n := 21) (q := 96) C K fF_RX10_40 dX10_tell_18 rfl rfl sh_85 (by decide) rfl ?_
    refine z_iload_n (n := 22) C 2 dX10_tell_21 rfl rfl ?_
    refine z_ialdN (n := 23) C K x dX10_tell_22 rfl sh_96 (by decide) rfl hx (by decide) ?_
    rcases e with e | e | e
    · rw [hz.1, e]
      refine z_lookup (n := 90) C dX10_tell_23 (by decide) rfl rfl ?_
      refine z_aload_n (n := 91) C 1 dX10_tell_90 rfl rfl ?_
      refine z_iconst (n := 92) (v := 1) C dX10_tell_91 rfl rfl ?_
      refine z_vv_1 (n := 95) (d' := 1) C K dX10_tell_92 rfl yk_X10_begins yv_X10_begins kM_RX10_313 (by decide) hR0 rfl rfl sh_85 (by decide) (by decide) ?_
      refine c_X10_begins ?_
      refine z_iload_n (n := 96) C 0 dX10_tell_95 rfl rfl ?_
      refine z_iret C E dX10_tell_96 ?_
      have h3 := hS x rfl hxc
      unfold tellS at h3
      rw [e] at h3
      simp only [hz.2.2.1, upI_upI, upI_same]
      have e3 : nI (ag x) + 100 = nI (ag x + 100) := nI_add _ 100
      have e4 : 2 * nI (ag x) + 100 = nI (2 * ag x + 100) := by rw [show (2 : Int32) = nI 2 from rfl, mul_nI, show (100 : Int32) = nI 100 from rfl, nI_add]
      first | exact h3 | (rw [e3]; exact h3) | (rw [e4]; exact h3)
    · rw [hz.1, e]
      refine z_lookup (n := 48) C dX10_tell_23 (by decide) rfl rfl ?_
      refine z_aload_n (n := 49) C 1 dX10_tell_48 rfl rfl ?_
      refine z_iconst (n := 50) (v := 2) C dX10_tell_49 rfl rfl ?_
      refine z_vv_1 (n := 53) (d' := 1) C K dX10_tell_50 rfl yk_X10_begins yv_X10_begins kM_RX10_313 (by decide) hR0 rfl rfl sh_85 (by decide) (by decide) ?_
      refine c_X10_begins ?_
      refine z_aload_n (n := 54) C 1 dX10_tell_53 rfl rfl ?_
      refine z_iconst (n := 55) (v := 1) C dX10_tell_54 rfl rfl ?_
      refine z_vv_1 (n := 58) (d' := 1) C K dX10_tell_55 rfl yk_X10_begins yv_X10_begins kM_RX10_313 (by decide) hR0 rfl rfl sh_85 (by decide) (by decide) ?_
      refine c_X10_begins ?_
      refine z_iload_n (n := 59) C 0 dX10_tell_58 rfl rfl ?_
      refine z_bipush (n := 61) (v := 100) C dX10_tell_59 rfl rfl ?_
      refine z_iadd (n := 62) C dX10_tell_61 rfl ?_
      refine z_iret C E dX10_tell_62 ?_
      have h3 := hS x rfl hxc
      unfold tellS at h3
      rw [e] at h3
      simp only [hz.2.2.1, upI_upI, upI_same]
      have e3 : nI (ag x) + 100 = nI (ag x + 100) := nI_add _ 100
      have e4 : 2 * nI (ag x) + 100 = nI (2 * ag x + 100) := by rw [show (2 : Int32) = nI 2 from rfl, mul_nI, show (100 : Int32) = nI 100 from rfl, nI_add]
      first | exact h3 | (rw [e3]; exact h3) | (rw [e4]; exact h3)
    · rw [hz.1, e]
      refine z_lookup (n := 63) C dX10_tell_23 (by decide) rfl rfl ?_
      refine z_aload_n (n := 64) C 1 dX10_tell_63 rfl rfl ?_
      refine z_iconst (n := 65) (v := 3) C dX10_tell_64 rfl rfl ?_
      refine z_vv_1 (n := 68) (d' := 1) C K dX10_tell_65 rfl yk_X10_begins yv_X10_begins kM_RX10_313 (by decide) hR0 rfl rfl sh_85 (by decide) (by decide) ?_
      refine c_X10_begins ?_
      refine z_aload_n (n := 69) C 1 dX10_tell_68 rfl rfl ?_
      refine z_iconst (n := 70) (v := 2) C dX10_tell_69 rfl rfl ?_
      refine z_vv_1 (n := 73) (d' := 1) C K dX10_tell_70 rfl yk_X10_begins yv_X10_begins kM_RX10_313 (by decide) hR0 rfl rfl sh_85 (by decide) (by decide) ?_
      refine c_X10_begins ?_
      refine z_aload_n (n := 74) C 1 dX10_tell_73 rfl rfl ?_
      refine z_iconst (n := 75) (v := 1) C dX10_tell_74 rfl rfl ?_
      refine z_vv_1 (n := 78) (d' := 1) C K dX10_tell_75 rfl yk_X10_begins yv_X10_begins kM_RX10_313 (by decide) hR0 rfl rfl sh_85 (by decide) (by decide) ?_
      refine c_X10_begins ?_
      refine z_aload_n (n := 79) C 1 dX10_tell_78 rfl rfl ?_
      refine z_iconst (n := 80) (v := 1) C dX10_tell_79 rfl rfl ?_
      refine z_vv_1 (n := 83) (d' := 1) C K dX10_tell_80 rfl yk_X10_begins yv_X10_begins kM_RX10_313 (by decide) hR0 rfl rfl sh_85 (by decide) (by decide) ?_
      refine c_X10_begins ?_
      refine z_iconst (n := 84) (v := 2) C dX10_tell_83 rfl rfl ?_
      refine z_iload_n (n := 85) C 0 dX10_tell_84 rfl rfl ?_
      refine z_imul (n := 86) C dX10_tell_85 rfl ?_
      refine z_bipush (n := 88) (v := 100) C dX10_tell_86 rfl rfl ?_
      refine z_iadd (n := 89) C dX10_tell_88 rfl ?_
      refine z_iret C E dX10_tell_89 ?_
      have h3 := hS x rfl hxc
      unfold tellS at h3
      rw [e] at h3
      simp only [hz.2.2.1, upI_upI, upI_same]
      have e3 : nI (ag x) + 100 = nI (ag x + 100) := nI_add _ 100
      have e4 : 2 * nI (ag x) + 100 = nI (2 * ag x + 100) := by rw [show (2 : Int32) = nI 2 from rfl, mul_nI, show (100 : Int32) = nI 100 from rfl, nI_add]
      first | exact h3 | (rw [e3]; exact h3) | (rw [e4]; exact h3)
  · refine z_ifF_ne (n := 8) (tgt := 10) C (by decide) dX10_tell_5 rfl rfl ?_
    refine z_iconst (n := 9) (v := (-1)) C dX10_tell_8 rfl rfl ?_
    refine z_iret C E dX10_tell_9 ?_
    exact hR b2
