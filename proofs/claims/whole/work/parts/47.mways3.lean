def cpd (I : KI) (rd : Nat → Nat → Nat) (k : Nat) : Prop := ∀ j, j < k → I 89 j = nI (rd 0 j) ∧ I 90 j = nI (rd 1 j) ∧ I 91 j = nI (rd 2 j) ∧ I 92 j = nI (rd 3 j) ∧ I 93 j = nI (rd 4 j)
theorem cpd.up {I : KI} {rd : Nat → Nat → Nat} {k : Nat} (h : cpd I rd k) : cpd (upI (upI (upI (upI (upI I 89 k (nI (rd 0 k))) 90 k (nI (rd 1 k))) 91 k (nI (rd 2 k))) 92 k (nI (rd 3 k))) 93 k (nI (rd 4 k))) rd (k + 1) := by
  intro j hj
  by_cases e : j = k
  · subst e
    refine ⟨?_, ?_, ?_, ?_, ?_⟩
    · rw [upI_p _ _ (by decide), upI_p _ _ (by decide), upI_p _ _ (by decide), upI_p _ _ (by decide), upI_same]
    · rw [upI_p _ _ (by decide), upI_p _ _ (by decide), upI_p _ _ (by decide), upI_same]
    · rw [upI_p _ _ (by decide), upI_p _ _ (by decide), upI_same]
    · rw [upI_p _ _ (by decide), upI_same]
    · rw [upI_same]
  · have g := h j (by omega)
    refine ⟨?_, ?_, ?_, ?_, ?_⟩
    · rw [upI_k _ _ e, upI_k _ _ e, upI_k _ _ e, upI_k _ _ e, upI_k _ _ e]; exact g.1
    · rw [upI_k _ _ e, upI_k _ _ e, upI_k _ _ e, upI_k _ _ e, upI_k _ _ e]; exact g.2.1
    · rw [upI_k _ _ e, upI_k _ _ e, upI_k _ _ e, upI_k _ _ e, upI_k _ _ e]; exact g.2.2.1
    · rw [upI_k _ _ e, upI_k _ _ e, upI_k _ _ e, upI_k _ _ e, upI_k _ _ e]; exact g.2.2.2.1
    · rw [upI_k _ _ e, upI_k _ _ e, upI_k _ _ e, upI_k _ _ e, upI_k _ _ e]; exact g.2.2.2.2
def frC (I0 I : KI) : Prop := ∀ q, ¬ (89 ≤ q ∧ q ≤ 93) → I q = I0 q
theorem frC.u {I0 I : KI} (h : frC I0 I) {p k : Nat} {v : Int32} (h1 : 89 ≤ p) (h2 : p ≤ 93) : frC I0 (upI I p k v) := fun q hq => by rw [upI_row _ _ (by omega)]; exact h q hq
set_option maxHeartbeats 4000000 in
set_option maxRecDepth 100000 in
theorem l_X10_streets {X : KX} {J : KJ} {t : Nat} (C : Cx X RX10 cX10_streets 6) (K : Kx X) (hnL : xnL X = 8) {I0 : KI} {r : Nat} (hr12 : r ≤ 12) {rd : Nat → Nat → Nat} (hr : I0 85 6 = nI r) (hrom : rom I0 r rd) (hN : ∀ I1, frC I0 I1 → cpd I1 rd r → Z X 0 0 (V X I1 J (rf t)) 204 [(0, .ref (xad X 85))] []) : ∀ (f k : Nat) (I1 : KI), r - k < f → (k ≤ r ∧ frC I0 I1 ∧ cpd I1 rd k) → Z X 0 0 (V X I1 J (rf t)) 101 [(7, .int (nI k)), (0, .ref (xad X 85))] [] := by
  intro f
  induction f with
  | zero => intro k I1 h; omega
  | succ f ih =>
    intro k I1 hf hi
    obtain ⟨hkr, hfr, hcp⟩ := hi
    have e5 : (5 : Int32) = nI 5 := rfl
    refine z_iload (n := 103) C 0 dX10_streets_101 rfl rfl ?_
    refine z_aload_n (n := 104) C 1 dX10_streets_103 rfl rfl ?_
    refine z_getI (n := 107) C K fF_RX10_124 dX10_streets_104 rfl sh_85 (by decide) ?_
    rw [hfr 85 (by decide), hr]
    refine z_icmp_ge (tgt := 204) (n := 110) C dX10_streets_107 rfl rfl (fun c107 => ?_) (fun c107 => ?_)
    · refine z_sub (L' := [(0, _)]) [1] rfl ?_
      rw [fa_le, nI_toInt (by omega), nI_toInt (by omega)] at c107
      have e : k = r := by omega
      subst e
      exact hN I1 hfr hcp
    · rw [fa_le, nI_toInt (by omega), nI_toInt (by omega)] at c107
      have hk : k < r := by omega
      have hro := hrom k hk
      have e95 := hfr 95 (by decide)
      refine z_aload_n (n := 111) C 1 dX10_streets_110 rfl rfl ?_
      refine z_getR (n := 114) (q := 89) C K fF_RX10_19 dX10_streets_111 rfl rfl sh_85 (by decide) rfl ?_
      refine z_iload (n := 116) C 0 dX10_streets_114 rfl rfl ?_
      refine z_aload_n (n := 117) C 1 dX10_streets_116 rfl rfl ?_
      refine z_getR (n := 120) (q := 95) C K fF_RX10_37 dX10_streets_117 rfl rfl sh_85 (by decide) rfl ?_
      refine z_iconst (n := 121) (v := 5) C dX10_streets_120 rfl rfl ?_
      refine z_iload (n := 123) C 0 dX10_streets_121 rfl rfl ?_
      rw [e5]
      refine z_imul (n := 124) C dX10_streets_123 rfl ?_
      rw [mul_nI]
      refine z_ialdN (n := 125) C K (5 * k + 0) dX10_streets_124 rfl sh_95 (by decide) rfl (by omega) (by decide) ?_
      rw [e95, hro 0 (by decide)]
      refine z_iastN (n := 126) C K k dX10_streets_125 rfl sh_89 (by decide) rfl (by omega) (by decide) ?_
      refine z_aload_n (n := 127) C 1 dX10_streets_126 rfl rfl ?_
      refine z_getR (n := 130) (q := 90) C K fF_RX10_22 dX10_streets_127 rfl rfl sh_85 (by decide) rfl ?_
      refine z_iload (n := 132) C 0 dX10_streets_130 rfl rfl ?_
      refine z_aload_n (n := 133) C 1 dX10_streets_132 rfl rfl ?_
      refine z_getR (n := 136) (q := 95) C K fF_RX10_37 dX10_streets_133 rfl rfl sh_85 (by decide) rfl ?_
      refine z_iconst (n := 137) (v := 5) C dX10_streets_136 rfl rfl ?_
      refine z_iload (n := 139) C 0 dX10_streets_137 rfl rfl ?_
      rw [e5]
      refine z_imul (n := 140) C dX10_streets_139 rfl ?_
      rw [mul_nI]
      refine z_iconst (n := 141) (v := 1) C dX10_streets_140 rfl rfl ?_
      rw [show (1 : Int32) = nI 1 from rfl]
      refine z_iadd (n := 142) C dX10_streets_141 rfl ?_
      refine z_ialdN (n := 143) C K (5 * k + 1) dX10_streets_142 rfl sh_95 (by decide) (by rw [nI_add]) (by omega) (by decide) ?_
      rw [upI_row _ _ (show (95 : Nat) ≠ 89 by decide), e95, hro 1 (by decide)]
      refine z_iastN (n := 144) C K k dX10_streets_143 rfl sh_90 (by decide) rfl (by omega) (by decide) ?_
      refine z_aload_n (n := 145) C 1 dX10_streets_144 rfl rfl ?_
      refine z_getR (n := 148) (q := 91) C K fF_RX10_25 dX10_streets_145 rfl rfl sh_85 (by decide) rfl ?_
      refine z_iload (n := 150) C 0 dX10_streets_148 rfl rfl ?_
      refine z_aload_n (n := 151) C 1 dX10_streets_150 rfl rfl ?_
      refine z_getR (n := 154) (q := 95) C K fF_RX10_37 dX10_streets_151 rfl rfl sh_85 (by decide) rfl ?_
      refine z_iconst (n := 155) (v := 5) C dX10_streets_154 rfl rfl ?_
      refine z_iload (n := 157) C 0 dX10_streets_155 rfl rfl ?_
      rw [e5]
      refine z_imul (n := 158) C dX10_streets_157 rfl ?_
      rw [mul_nI]
      refine z_iconst (n := 159) (v := 2) C dX10_streets_158 rfl rfl ?_
      rw [show (2 : Int32) = nI 2 from rfl]
      refine z_iadd (n := 160) C dX10_streets_159 rfl ?_
      refine z_ialdN (n := 161) C K (5 * k + 2) dX10_streets_160 rfl sh_95 (by decide) (by rw [nI_add]) (by omega) (by decide) ?_
      rw [upI_row _ _ (show (95 : Nat) ≠ 90 by decide), upI_row _ _ (show (95 : Nat) ≠ 89 by decide), e95, hro 2 (by decide)]
      refine z_iastN (n := 162) C K k dX10_streets_161 rfl sh_91 (by decide) rfl (by omega) (by decide) ?_
      refine z_aload_n (n := 163) C 1 dX10_streets_162 rfl rfl ?_
      refine z_getR (n := 166) (q := 92) C K fF_RX10_28 dX10_streets_163 rfl rfl sh_85 (by decide) rfl ?_
      refine z_iload (n := 168) C 0 dX10_streets_166 rfl rfl ?_
      refine z_aload_n (n := 169) C 1 dX10_streets_168 rfl rfl ?_
      refine z_getR (n := 172) (q := 95) C K fF_RX10_37 dX10_streets_169 rfl rfl sh_85 (by decide) rfl ?_
      refine z_iconst (n := 173) (v := 5) C dX10_streets_172 rfl rfl ?_
      refine z_iload (n := 175) C 0 dX10_streets_173 rfl rfl ?_
      rw [e5]
      refine z_imul (n := 176) C dX10_streets_175 rfl ?_
      rw [mul_nI]
      refine z_iconst (n := 177) (v := 3) C dX10_streets_176 rfl rfl ?_
      rw [show (3 : Int32) = nI 3 from rfl]
      refine z_iadd (n := 178) C dX10_streets_177 rfl ?_
      refine z_ialdN (n := 179) C K (5 * k + 3) dX10_streets_178 rfl sh_95 (by decide) (by rw [nI_add]) (by omega) (by decide) ?_
      rw [upI_row _ _ (show (95 : Nat) ≠ 91 by decide), upI_row _ _ (show (95 : Nat) ≠ 90 by decide), upI_row _ _ (show (95 : Nat) ≠ 89 by decide), e95, hro 3 (by decide)]
      refine z_iastN (n := 180) C K k dX10_streets_179 rfl sh_92 (by decide) rfl (by omega) (by decide) ?_
      refine z_aload_n (n := 181) C 1 dX10_streets_180 rfl rfl ?_
      refine z_getR (n := 184) (q := 93) C K fF_RX10_31 dX10_streets_181 rfl rfl sh_85 (by decide) rfl ?_
      refine z_iload (n := 186) C 0 dX10_streets_184 rfl rfl ?_
      refine z_aload_n (n := 187) C 1 dX10_streets_186 rfl rfl ?_
      refine z_getR (n := 190) (q := 95) C K fF_RX10_37 dX10_streets_187 rfl rfl sh_85 (by decide) rfl ?_
      refine z_iconst (n := 191) (v := 5) C dX10_streets_190 rfl rfl ?_
      refine z_iload (n := 193) C 0 dX10_streets_191 rfl rfl ?_
      rw [e5]
      refine z_imul (n := 194) C dX10_streets_193 rfl ?_
      rw [mul_nI]
      refine z_iconst (n := 195) (v := 4) C dX10_streets_194 rfl rfl ?_
      rw [show (4 : Int32) = nI 4 from rfl]
      refine z_iadd (n := 196) C dX10_streets_195 rfl ?_
      refine z_ialdN (n := 197) C K (5 * k + 4) dX10_streets_196 rfl sh_95 (by decide) (by rw [nI_add]) (by omega) (by decide) ?_
      rw [upI_row _ _ (show (95 : Nat) ≠ 92 by decide), upI_row _ _ (show (95 : Nat) ≠ 91 by decide), upI_row _ _ (show (95 : Nat) ≠ 90 by decide), upI_row _ _ (show (95 : Nat) ≠ 89 by decide), e95, hro 4 (by decide)]
      refine z_iastN (n := 198) C K k dX10_streets_197 rfl sh_93 (by decide) rfl (by omega) (by decide) ?_
      refine z_iincG (n := 201) (c := 1) (L' := [(7, _), (0, _)]) C 0 dX10_streets_198 rfl rfl rfl (by rw [hnL]; decide) rfl ?_
      refine z_goto (n := 101) C dX10_streets_201 rfl ?_
      rw [nI_1]
      exact ih (k + 1) _ (by omega) ⟨by omega, ((((hfr.u (by decide) (by decide)).u (by decide) (by decide)).u (by decide) (by decide)).u (by decide) (by decide)).u (by decide) (by decide), hcp.up⟩
set_option maxHeartbeats 4000000 in
set_option maxRecDepth 100000 in
theorem c_X10_streets {ad : Nat → Nat} {I : KI} {J : KJ} {t : Nat} {th : Nat → Bool} {so ct : Nat → Nat} {ce : Nat → Nat → Int32} (hs : mSh I th so ct ce) (oks : okSh so ct) {kv sv iv nv : Int32} {cd : Nat → Int32} (hcd : ∀ k i n : Nat, kv = nI k → k < 4 → iv = nI i → nv = nI n → i + n ≤ 100 → ∀ j, j < n → ce k (i + j) = cd j) {C0 : Nat → Nat → Nat} (hC : ∀ q, strA th so ct cd kv sv iv nv = .inr q → okW q.1 q.2.1 q.2.2.2 C0) {Q : Int32 → KI → KJ → KR → Prop} (hR : ∀ a f I1, strA th so ct cd kv sv iv nv = .inl (a, f) → (∀ x, x ≠ 85 → x ≠ 95 → I1 x = I x) → (∀ j, j ≠ 0 → j ≠ 14 → j ≠ 15 → j ≠ 16 → j ≠ 18 → I1 85 j = I 85 j) → I1 85 0 = nI f → Q a I1 J (rf t)) (hS : ∀ q I1, strA th so ct cd kv sv iv nv = .inr q → (∀ x, x ≠ 85 → x ≠ 95 → ¬ (89 ≤ x ∧ x ≤ 94) → I1 x = I x) → (∀ j, j ≠ 0 → j ≠ 5 → j ≠ 6 → j ≠ 7 → j ≠ 14 → j ≠ 15 → j ≠ 16 → j ≠ 18 → j ≠ 19 → I1 85 j = I 85 j) → I1 85 0 = 0 → I1 85 19 = 0 → mTw I1 q.1 q.2.1 q.2.2.1 q.2.2.2 → mWy I1 q.1 C0 → Q (nI q.2.1) I1 J (rf t)) : Mi 6 yX10_streets (wm yX10_streets cX10_streets 8 (some .int)) [.ref (ad 85), .int (kv), .int (sv), .int (iv), .int (nv)] ad I J (rf t) Q := by
  refine mi_of (own := RX10) yk_X10_streets rfl (Nat.le_of_ble_eq_true rfl) rfl (fun X hA hnL C K E => ?_)
  subst hA
  refine z_aload_n (n := 1) C 0 dX10_streets_0 rfl rfl ?_
  refine z_iconst (n := 2) (v := 0) C dX10_streets_1 rfl rfl ?_
  refine z_putI (n := 5) C K fF_RX10_87 dX10_streets_2 rfl sh_85 (by decide) ?_
  refine z_iload_n (n := 6) C 1 dX10_streets_5 rfl rfl ?_
  refine z_si_1 (n := 9) (d' := 2) C K dX10_streets_6 rfl yk_X10_isSheet kT_yX10_isSheet kM_RX10_99 (by decide) hR0 rfl ?_
  refine c_X10_isSheet (fun b6 => ?_) (fun b6 => ?_)
  · refine z_ifT_ne (tgt := 14) C (by decide) dX10_streets_9 rfl ?_
    refine z_iload_n (n := 15) C 2 dX10_streets_14 rfl rfl ?_
    refine z_si_1 (n := 18) (d' := 2) C K dX10_streets_15 rfl yk_X10_isSort kT_yX10_isSort kM_RX10_103 (by decide) hR0 rfl ?_
    refine c_X10_isSort (fun b15 => ?_) (fun b15 => ?_)
    · refine z_ifT_ne (tgt := 24) C (by decide) dX10_streets_18 rfl ?_
      obtain ⟨k, hk3, rfl⟩ := isB_of (h := 3) b6
      have hk : k < 4 := by omega
      have hz := hs k hk
      have hok := oks k hk
      refine z_aload_n (n := 25) C 0 dX10_streets_24 rfl rfl ?_
      refine z_iload_n (n := 26) C 1 dX10_streets_25 rfl rfl ?_
      refine z_iload_n (n := 27) C 2 dX10_streets_26 rfl rfl ?_
      refine z_iload_n (n := 28) C 3 dX10_streets_27 rfl rfl ?_
      refine z_iload (n := 30) C 4 dX10_streets_28 rfl rfl ?_
      refine z_vi_4 (n := 33) (d' := 1) C K dX10_streets_30 rfl yk_X10_against yv_X10_against kM_RX10_106 (by decide) hR0 rfl rfl sh_85 (by decide) (by decide) ?_
      refine c_X10_against hk (by rw [upI_row _ _ (by decide)]; exact hz.1) hok.1 hok.2 (by rw [upI_row _ _ (by decide)]; exact hz.2.1) ?_
      refine z_istore (n := 35) (L' := [(5, _), (0, _), (1, _), (2, _), (3, _), (4, _)]) C dX10_streets_33 rfl (by rw [hnL]; decide) rfl ?_
      refine z_iload (n := 37) C 0 dX10_streets_35 rfl rfl ?_
      refine z_if_eq (tgt := 47) (n := 40) C dX10_streets_37 rfl rfl (fun c37 => ?_) (fun c37 => ?_)
      · have hr0 : rfS (th k) (so k) (ct k) sv iv nv = 0 := nI_inj (b := 0) c37 (by have := rfS_le (th k) (so k) (ct k) sv iv nv; omega) (by decide)
        obtain ⟨hi0, hn0, hin⟩ := rfS_0 hr0
        obtain ⟨i, hi31, rfl⟩ := i_nat hi0
        obtain ⟨n, hn31, rfl⟩ := i_nat hn0
        rw [nI_toInt hi31, nI_toInt hn31] at hin
        have hct := hok.2
        refine z_aload_n (n := 48) C 1 dX10_streets_47 rfl rfl ?_
        refine z_bipush (n := 50) (v := 100) C dX10_streets_48 rfl rfl ?_
        refine z_iload_n (n := 51) C 2 dX10_streets_50 rfl rfl ?_
        rw [show (100 : Int32) = nI 100 from rfl]
        refine z_imul (n := 52) C dX10_streets_51 rfl ?_
        rw [mul_nI]
        refine z_iload_n (n := 53) C 4 dX10_streets_52 rfl rfl ?_
        refine z_iadd (n := 54) C dX10_streets_53 rfl ?_
        rw [nI_add]
        refine z_iload (n := 56) C 5 dX10_streets_54 rfl rfl ?_
        refine z_vi_2 (n := 59) (d' := 5) C K dX10_streets_56 rfl yk_X10_readStreets yv_X10_readStreets kM_RX10_114 (by decide) hR0 rfl rfl sh_85 (by decide) (by decide) ?_
        refine c_X10_readStreets (cd := cd) ⟨by omega, fun j hj => ?_⟩ (fun p I2 hp hf => ?_) (fun q I2 hq hf g0 g1 g2 g3 => ?_)
        · rw [upI_row _ _ (by decide), show 100 * k + i + j = 100 * k + (i + j) by omega, hz.2.2 (i + j) (by omega)]
          exact hcd k i n rfl hk rfl rfl (by omega) j hj
        · refine z_istore (n := 61) (L' := [(6, _), (5, _), (0, _), (1, _), (2, _), (3, _), (4, _)]) C dX10_streets_59 rfl (by rw [hnL]; decide) rfl ?_
          refine z_iload (n := 63) C 0 dX10_streets_61 rfl rfl ?_
          refine z_bipush (n := 65) (v := (-9)) C dX10_streets_63 rfl rfl ?_
          have hpl := txP_le hp
          refine z_icmpF_eq (n := 68) (tgt := 74) C (fun e => by rw [fa_eq, nI_toInt (by omega)] at e; simp only [Int32.reduceToInt] at e; omega) dX10_streets_65 rfl rfl ?_
          refine z_bipush (n := 70) (v := (-100)) C dX10_streets_68 rfl rfl ?_
          refine z_iload (n := 72) C 0 dX10_streets_70 rfl rfl ?_
          refine z_isub (n := 73) C dX10_streets_72 rfl ?_
          refine z_iret C E dX10_streets_73 ?_
          exact hR _ _ _ (strA_4 hk hn31 b6 b15 hr0 hp) (fun x h0 h2 => by rw [hf.1 x h0 h2, upI_row _ _ h0]) (fun j h0 h1 h2 h3 h4 => by rw [hf.2 j h1 h2 h3 h4, upI_k _ _ h0]) (by rw [hf.2 0 (by decide) (by decide) (by decide) (by decide), upI_same]; rfl)
        · refine z_istore (n := 61) (L' := [(6, _), (5, _), (0, _), (1, _), (2, _), (3, _), (4, _)]) C dX10_streets_59 rfl (by rw [hnL]; decide) rfl ?_
          refine z_iload (n := 63) C 0 dX10_streets_61 rfl rfl ?_
          refine z_bipush (n := 65) (v := (-9)) C dX10_streets_63 rfl rfl ?_
          refine z_icmpT_eq (tgt := 74) C (by decide) dX10_streets_65 rfl ?_
          have hok5 := txP_ok hq
          have hA5 := strA_5 (cd := cd) hk hn31 b6 b15 hr0 hq
          have hc := hC q hA5
          refine z_aload_n (n := 75) C 2 dX10_streets_74 rfl rfl ?_
          refine z_aload_n (n := 76) C 2 dX10_streets_75 rfl rfl ?_
          refine z_getI (n := 79) C K fF_RX10_118 dX10_streets_76 rfl sh_85 (by decide) ?_
          refine z_putI (n := 82) C K fF_RX10_96 dX10_streets_79 rfl sh_85 (by decide) ?_
          refine z_aload_n (n := 83) C 2 dX10_streets_82 rfl rfl ?_
          refine z_aload_n (n := 84) C 2 dX10_streets_83 rfl rfl ?_
          refine z_getI (n := 87) C K fF_RX10_121 dX10_streets_84 rfl sh_85 (by decide) ?_
          refine z_putI (n := 90) C K fF_RX10_124 dX10_streets_87 rfl sh_85 (by decide) ?_
          refine z_aload_n (n := 91) C 2 dX10_streets_90 rfl rfl ?_
          refine z_aload_n (n := 92) C 2 dX10_streets_91 rfl rfl ?_
          refine z_getI (n := 95) C K fF_RX10_127 dX10_streets_92 rfl sh_85 (by decide) ?_
          refine z_putI (n := 98) C K fF_RX10_130 dX10_streets_95 rfl sh_85 (by decide) ?_
          refine z_iconst (n := 99) (v := 0) C dX10_streets_98 rfl rfl ?_
          refine z_istore (n := 101) (L' := [(7, _), (6, _), (5, _), (0, _), (1, _), (2, _), (3, _), (4, _)]) C dX10_streets_99 rfl (by rw [hnL]; decide) rfl ?_
          refine z_sub (L' := [(7, _), (0, _)]) [0, 3] rfl ?_
          rw [upI_k _ _ (show (15 : Nat) ≠ 5 by decide), upI_k _ _ (show (16 : Nat) ≠ 6 by decide), upI_k _ _ (show (16 : Nat) ≠ 5 by decide), g0, g1, g2]
          refine l_X10_streets (r := q.2.1) (rd := q.2.2.2) C K hnL hok5.1.2.1 (by rw [upI_k _ _ (by decide), upI_same]) (fun z hz2 f hf5 => by rw [upI_row _ _ (by decide), upI_row _ _ (by decide), upI_row _ _ (by decide)]; exact g3 z hz2 f hf5) (fun I1 hf1 hcp => ?_) (q.2.1 + 1) 0 _ (by omega) ⟨by omega, fun _ _ => rfl, fun j hj => by omega⟩
          have h85 := hf1 85 (by decide)
          have hmt : mTw (upI I1 85 19 0) q.1 q.2.1 q.2.2.1 q.2.2.2 := by
            refine ⟨?_, ?_, ?_, fun z hz2 => ?_⟩
            · rw [upI_k _ _ (by decide), h85, upI_k _ _ (by decide), upI_k _ _ (by decide), upI_same]
            · rw [upI_k _ _ (by decide), h85, upI_k _ _ (by decide), upI_same]
            · rw [upI_k _ _ (by decide), h85, upI_same]
            · rw [upI_row _ _ (by decide), upI_row _ _ (by decide), upI_row _ _ (by decide), upI_row _ _ (by decide), upI_row _ _ (by decide)]
              exact hcp z hz2
          refine z_aload_n (n := 205) C 0 dX10_streets_204 rfl rfl ?_
          refine z_iconst (n := 206) (v := 0) C dX10_streets_205 rfl rfl ?_
          refine z_putI (n := 209) C K fF_RX10_133 dX10_streets_206 rfl sh_85 (by decide) ?_
          refine z_aload_n (n := 210) C 0 dX10_streets_209 rfl rfl ?_
          refine z_vv_0 (n := 213) (d' := 2) C K dX10_streets_210 rfl yk_X10_layFar yv_X10_layFar kM_RX10_136 (by decide) hR0 rfl rfl sh_85 (by decide) (by decide) ?_
          refine c_X10_layFar (s := q.2.2.1) hmt hok5.1 hc (fun I3 hf3 h3 => ?_)
          refine z_aload_n (n := 214) C 0 dX10_streets_213 rfl rfl ?_
          refine z_getI (n := 217) C K fF_RX10_124 dX10_streets_214 rfl sh_85 (by decide) ?_
          refine z_iret C E dX10_streets_217 ?_
          have h6 : I3 85 6 = nI q.2.1 := by rw [hf3 85 (by decide)]; exact hmt.2.1
          rw [h6]
          refine hS q I3 hA5 (fun x h1 h2 h3 => ?_) (fun j h1 h2 h3 h4 h5 h6 h7 h8 h9 => ?_) ?_ ?_ (hf3.tw hmt) h3
          · rw [hf3 x (by omega), upI_row _ _ h1, hf1 x (by omega), upI_row _ _ h1, upI_row _ _ h1, upI_row _ _ h1, hf.1 x h1 h2, upI_row _ _ h1]
          · rw [hf3 85 (by decide), upI_k _ _ h9, h85, upI_k _ _ h4, upI_k _ _ h3, upI_k _ _ h2, hf.2 j h5 h6 h7 h8, upI_k _ _ h1]
          · rw [hf3 85 (by decide), upI_k _ _ (by decide), h85, upI_k _ _ (by decide), upI_k _ _ (by decide), upI_k _ _ (by decide), hf.2 0 (by decide) (by decide) (by decide) (by decide), upI_same]
          · rw [hf3 85 (by decide), upI_same]
      · refine z_aload_n (n := 41) C 1 dX10_streets_40 rfl rfl ?_
        refine z_iload (n := 43) C 0 dX10_streets_41 rfl rfl ?_
        refine z_vi_1 (n := 46) (d' := 1) C K dX10_streets_43 rfl yk_X10_fails yv_X10_fails kM_RX10_110 (by decide) hR0 rfl rfl sh_85 (by decide) (by decide) ?_
        refine c_X10_fails ?_
        refine z_iret C E dX10_streets_46 ?_
        rw [upI_upI]
        exact hR _ _ _ (strA_3 hk b6 b15 (fun e => c37 (by rw [e]; rfl))) (fun x h0 _ => upI_row _ _ h0) (fun j hj _ _ _ _ => upI_k _ _ hj) (upI_same _ _ _ _)
    · refine z_ifF_ne (n := 21) (tgt := 24) C (by decide) dX10_streets_18 rfl rfl ?_
      refine z_bipush (n := 23) (v := (-2)) C dX10_streets_21 rfl rfl ?_
      refine z_iret C E dX10_streets_23 ?_
      exact hR _ _ _ (strA_2 b6 b15) (fun x h0 _ => upI_row _ _ h0) (fun j hj _ _ _ _ => upI_k _ _ hj) (upI_same _ _ _ _)
  · refine z_ifF_ne (n := 12) (tgt := 14) C (by decide) dX10_streets_9 rfl rfl ?_
    refine z_iconst (n := 13) (v := (-1)) C dX10_streets_12 rfl rfl ?_
    refine z_iret C E dX10_streets_13 ?_
    exact hR _ _ _ (strA_1 b6) (fun x h0 _ => upI_row _ _ h0) (fun j hj _ _ _ _ => upI_k _ _ hj) (upI_same _ _ _ _)
