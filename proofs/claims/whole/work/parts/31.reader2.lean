theorem nc1 {x : Int32} {nc : Nat} (h : x = nI nc) (h1 : 1 ≤ nc) : x - 1 = nI (nc - 1) := by
  rw [h, show (1 : Int32) = nI 1 from rfl, pk_sub h1]
theorem isDb_eq {cd : Nat → Int32} {n a v m : Nat} (h : isDb cd n a 0 m = true) : isDb cd n a v v = true ↔ dv cd a = v := by
  have h1 := isDb_t.mp h
  have h2 := h1.v
  constructor
  · intro q; have h3 := (isDb_t.mp q).v; omega
  · intro q; exact isDb_t.mpr ⟨h1.1, by omega, by omega⟩
theorem ros.add {I : KI} {u r : Nat} {rd : Nat → Nat → Nat} (h : ros I u r rd) (hu : Tw u) (q : Rd) : ros (upI (upI (upI (upI (upI (upI I (u + 1) r (nI q.1)) (u + 2) r (nI q.2.1)) (u + 3) r (nI q.2.2.1)) (u + 4) r (nI q.2.2.2.1)) (u + 5) r (nI q.2.2.2.2.1)) u 1 (nI (r + 1))) u (r + 1) (rdU rd r q) := by
  intro k hk
  by_cases e : k = r
  · subst e
    simp [upI, rdU]
  · have h1 := h k (by omega)
    simpa [upI, rdU, e] using h1
set_option maxHeartbeats 4000000 in
set_option maxRecDepth 100000 in
theorem c_X4_readRoad {ad : Nat → Nat} {I : KI} {J : KJ} {t : Nat} {cd : Nat → Int32} {n a u nc r : Nat} {rd : Nat → Nat → Nat} (hr : rdr I cd n a) (hu : Tw u) (h0 : I u 0 = nI nc) (hnc : 2 ≤ nc ∧ nc ≤ 7) (h1 : I u 1 = nI r) (hr12 : r < 12) (ho : ros I u r rd) {Q : Int32 → KI → KJ → KR → Prop} (hE : ∀ p, rdP cd n nc a = .inl p → ∀ I', (∀ q, q ≠ 2 → I' q = I q) → Q (nI p) I' J (rf t)) (hO : ∀ q, rdP cd n nc a = .inr q → ∀ I', rdr I' cd n q.2.2.2.2.2 → (∀ x, x ≠ 2 → ¬ (u ≤ x ∧ x ≤ u + 5) → I' x = I x) → (∀ j, j ≠ 1 → I' u j = I u j) → I' u 1 = nI (r + 1) → ros I' u (r + 1) (rdU rd r q) → Q (-1) I' J (rf t)) : Mi 5 yX4_readRoad (wm yX4_readRoad cX4_readRoad 7 (some .int)) [.ref (ad 2), .ref (ad u)] ad I J (rf t) Q := by
  refine mi_of (own := RX4) yk_X4_readRoad rfl (Nat.le_of_ble_eq_true rfl) rfl (fun X hA hnL C K E => ?_)
  subst hA
  have hn2 := hu.n2
  refine z_aload_n (n := 1) C 0 dX4_readRoad_0 rfl rfl ?_
  refine z_iconst (n := 2) (v := 0) C dX4_readRoad_1 rfl rfl ?_
  refine z_aload_n (n := 3) C 1 dX4_readRoad_2 rfl rfl ?_
  refine z_getI (n := 6) C K fF_RX4_61 dX4_readRoad_3 rfl (sh_tw hu) (Tw.lt0 hu) ?_
  refine z_iconst (n := 7) (v := 1) C dX4_readRoad_6 rfl rfl ?_
  refine z_isub (n := 8) C dX4_readRoad_7 rfl ?_
  refine z_vi_2 (n := 11) (d' := 2) C K dX4_readRoad_8 rfl yk_X4_isDigit yv_X4_isDigit kM_RX4_37 (by decide) hR0 rfl rfl sh_2 (by decide) (by decide) ?_
  refine c_X4_isDigit hr (lo := 0) (hi := nc - 1) rfl (nc1 h0 (by omega)) (by omega) (by omega) (fun b8 => ?_) (fun b8 => ?_)
  · refine z_ifT_ne (tgt := 19) C (by decide) dX4_readRoad_11 rfl ?_
    refine z_aload_n (n := 20) C 0 dX4_readRoad_19 rfl rfl ?_
    refine z_vi_0 (n := 23) (d' := 3) C K dX4_readRoad_20 rfl yk_X4_takeDigit yv_X4_takeDigit kM_RX4_41 (by decide) hR0 rfl rfl sh_2 (by decide) (by decide) ?_
    have d8 := isDb_t.mp b8
    refine c_X4_takeDigit hr (fun _ => ?_) (fun e => (isDb_f.mp e (d8.w (by omega) (by omega))).elim)
    have hr1 := hr.up (b := a + 1) (by have := d8.1; omega)
    refine z_istore_n (n := 24) (L' := [(2, _), (0, _), (1, _)]) C dX4_readRoad_23 rfl (by rw [hnL]; decide) rfl ?_
    refine z_aload_n (n := 25) C 1 dX4_readRoad_24 rfl rfl ?_
    refine z_iconst (n := 26) (v := 0) C dX4_readRoad_25 rfl rfl ?_
    refine z_aload_n (n := 27) C 2 dX4_readRoad_26 rfl rfl ?_
    refine z_getI (n := 30) C K fF_RX4_61 dX4_readRoad_27 rfl (sh_tw hu) (Tw.lt0 hu) ?_
    refine z_iconst (n := 31) (v := 1) C dX4_readRoad_30 rfl rfl ?_
    refine z_isub (n := 32) C dX4_readRoad_31 rfl ?_
    refine z_vi_2 (n := 35) (d' := 2) C K dX4_readRoad_32 rfl yk_X4_isDigit yv_X4_isDigit kM_RX4_37 (by decide) hR0 rfl rfl sh_2 (by decide) (by decide) ?_
    refine c_X4_isDigit hr1 (lo := 0) (hi := nc - 1) rfl (nc1 (by rw [upI_p _ _ (by omega)]; exact h0) (by omega)) (by omega) (by omega) (fun b32 => ?_) (fun b32 => ?_)
    · refine z_ifF_eq (n := 38) (tgt := 47) C (by decide) dX4_readRoad_35 rfl rfl ?_
      refine z_aload_n (n := 39) C 1 dX4_readRoad_38 rfl rfl ?_
      refine z_iload_n (n := 40) C 0 dX4_readRoad_39 rfl rfl ?_
      refine z_iload_n (n := 41) C 0 dX4_readRoad_40 rfl rfl ?_
      refine z_vi_2 (n := 44) (d' := 2) C K dX4_readRoad_41 rfl yk_X4_isDigit yv_X4_isDigit kM_RX4_37 (by decide) hR0 rfl rfl sh_2 (by decide) (by decide) ?_
      refine c_X4_isDigit hr1 (lo := dv cd a) (hi := dv cd a) rfl rfl (by have := d8.v; omega) (by have := d8.v; omega) (fun b41 => ?_) (fun b41 => ?_)
      · refine z_ifF_eq (n := 47) (tgt := 52) C (by decide) dX4_readRoad_44 rfl rfl ?_
        refine z_aload_n (n := 48) C 1 dX4_readRoad_47 rfl rfl ?_
        refine z_getI (n := 51) C K fF_RX4_19 dX4_readRoad_48 rfl sh_2 (by decide) ?_
        refine z_iret C E dX4_readRoad_51 ?_
        refine eqQ (upI_same _ _ _ _) (hE (a + 1) (by
          unfold rdP
          rw [if_neg (by rw [b8]; decide), if_pos (Or.inr ((isDb_eq b32).mp b41))]) _ (fun q hq => upI_row _ _ hq))
      · refine z_ifT_eq (tgt := 52) C (by decide) dX4_readRoad_44 rfl ?_
        refine z_aload_n (n := 53) C 1 dX4_readRoad_52 rfl rfl ?_
        refine z_vi_0 (n := 56) (d' := 3) C K dX4_readRoad_53 rfl yk_X4_takeDigit yv_X4_takeDigit kM_RX4_41 (by decide) hR0 rfl rfl sh_2 (by decide) (by decide) ?_
        have d32 := isDb_t.mp b32
        refine c_X4_takeDigit hr1 (fun _ => ?_) (fun e => (isDb_f.mp e (d32.w (by omega) (by omega))).elim)
        rw [upI_upI, show a + 1 + 1 = a + 2 from rfl]
        have hr2 := hr.up (b := a + 2) (by have := d32.1; omega)
        refine z_istore_n (n := 57) (L' := [(3, _), (2, _), (0, _), (1, _)]) C dX4_readRoad_56 rfl (by rw [hnL]; decide) rfl ?_
        refine z_aload_n (n := 58) C 2 dX4_readRoad_57 rfl rfl ?_
        refine z_getI (n := 61) C K fF_RX4_19 dX4_readRoad_58 rfl sh_2 (by decide) ?_
        refine z_istore (n := 63) (L' := [(4, _), (3, _), (2, _), (0, _), (1, _)]) C dX4_readRoad_61 rfl (by rw [hnL]; decide) rfl ?_
        refine z_aload_n (n := 64) C 3 dX4_readRoad_63 rfl rfl ?_
        refine z_vi_0 (n := 67) (d' := 4) C K dX4_readRoad_64 rfl yk_X4_takeNumber yv_X4_takeNumber kM_RX4_64 (by decide) hR0 rfl rfl sh_2 (by decide) (by decide) ?_
        refine c_X4_takeNumber hr2 ?_
        rw [upI_upI]
        have hle := nuP_le (cd := cd) (n := n) (a := a + 2)
        have hr3 := hr.up (b := (nuP cd n (a + 2)).2) (hle.2.2 hr2.2.2.1)
        refine z_istore (n := 69) (L' := [(5, _), (4, _), (3, _), (2, _), (0, _), (1, _)]) C dX4_readRoad_67 rfl (by rw [hnL]; decide) rfl ?_
        refine z_iload (n := 71) C 0 dX4_readRoad_69 rfl rfl ?_
        refine z_iconst (n := 72) (v := 1) C dX4_readRoad_71 rfl rfl ?_
        refine z_bipush (n := 74) (v := 30) C dX4_readRoad_72 rfl rfl ?_
        refine z_siN_3 (n := 77) (d' := 1) C K dX4_readRoad_74 rfl yk_X9_isWithin kT_yX9_isWithin (List.mem_of_getElem? (i := 9) rfl) (by decide) hR0 rfl ?_
        refine c_inB (lo := 1) (hi := 30) (by decide) (by decide) (fun b74 => ?_) (fun b74 => ?_)
        · refine z_ifT_ne (tgt := 83) C (by decide) dX4_readRoad_77 rfl ?_
          refine z_aload_n (n := 84) C 4 dX4_readRoad_83 rfl rfl ?_
          refine z_bipush (n := 86) (v := 99) C dX4_readRoad_84 rfl rfl ?_
          refine z_vi_1 (n := 89) (d' := 1) C K dX4_readRoad_86 rfl yk_X4_take yv_X4_take kM_RX4_33 (by decide) hR0 rfl rfl sh_2 (by decide) (by decide) ?_
          refine c_X4_take hr3 (c := 99) rfl (fun b86 => ?_) (fun b86 => ?_)
          · refine z_ifT_ne (tgt := 104) C (by decide) dX4_readRoad_89 rfl ?_
            rw [upI_upI]
            have hr4 := hr.up (b := (nuP cd n (a + 2)).2 + 1) (by have := (isCb_t.mp b86).1; omega)
            refine z_aload_n (n := 105) C 4 dX4_readRoad_104 rfl rfl ?_
            refine z_iconst (n := 106) (v := 1) C dX4_readRoad_105 rfl rfl ?_
            refine z_bipush (n := 108) (v := 9) C dX4_readRoad_106 rfl rfl ?_
            refine z_vi_2 (n := 111) (d' := 2) C K dX4_readRoad_108 rfl yk_X4_isDigit yv_X4_isDigit kM_RX4_37 (by decide) hR0 rfl rfl sh_2 (by decide) (by decide) ?_
            refine c_X4_isDigit hr4 (lo := 1) (hi := 9) rfl rfl (by omega) (by omega) (fun b108 => ?_) (fun b108 => ?_)
            · refine z_ifT_ne (tgt := 119) C (by decide) dX4_readRoad_111 rfl ?_
              refine z_aload_n (n := 120) C 4 dX4_readRoad_119 rfl rfl ?_
              refine z_vi_0 (n := 123) (d' := 3) C K dX4_readRoad_120 rfl yk_X4_takeDigit yv_X4_takeDigit kM_RX4_41 (by decide) hR0 rfl rfl sh_2 (by decide) (by decide) ?_
              have d108 := isDb_t.mp b108
              refine c_X4_takeDigit hr4 (fun _ => ?_) (fun e => (isDb_f.mp e (d108.w (by omega) (by omega))).elim)
              rw [upI_upI, show (nuP cd n (a + 2)).2 + 1 + 1 = (nuP cd n (a + 2)).2 + 2 from rfl]
              have hr5 := hr.up (b := (nuP cd n (a + 2)).2 + 2) (by have := d108.1; omega)
              refine z_istore (n := 125) (L' := [(6, _), (5, _), (4, _), (3, _), (2, _), (0, _), (1, _)]) C dX4_readRoad_123 rfl (by rw [hnL]; decide) rfl ?_
              refine z_aload_n (n := 126) C 5 dX4_readRoad_125 rfl rfl ?_
              refine z_iconst (n := 127) (v := 1) C dX4_readRoad_126 rfl rfl ?_
              refine z_bipush (n := 129) (v := 9) C dX4_readRoad_127 rfl rfl ?_
              refine z_vi_2 (n := 132) (d' := 2) C K dX4_readRoad_129 rfl yk_X4_isDigit yv_X4_isDigit kM_RX4_37 (by decide) hR0 rfl rfl sh_2 (by decide) (by decide) ?_
              refine c_X4_isDigit hr5 (lo := 1) (hi := 9) rfl rfl (by omega) (by omega) (fun b129 => ?_) (fun b129 => ?_)
              · refine z_ifT_ne (tgt := 140) C (by decide) dX4_readRoad_132 rfl ?_
                refine z_aload_n (n := 141) C 6 dX4_readRoad_140 rfl rfl ?_
                refine z_iload_n (n := 142) C 4 dX4_readRoad_141 rfl rfl ?_
                refine z_iload_n (n := 143) C 3 dX4_readRoad_142 rfl rfl ?_
                refine z_iload (n := 145) C 1 dX4_readRoad_143 rfl rfl ?_
                refine z_iload (n := 147) C 0 dX4_readRoad_145 rfl rfl ?_
                refine z_aload_n (n := 148) C 5 dX4_readRoad_147 rfl rfl ?_
                refine z_vi_0 (n := 151) (d' := 3) C K dX4_readRoad_148 rfl yk_X4_takeDigit yv_X4_takeDigit kM_RX4_41 (by decide) hR0 rfl rfl sh_2 (by decide) (by decide) ?_
                have d129 := isDb_t.mp b129
                refine c_X4_takeDigit hr5 (fun _ => ?_) (fun e => (isDb_f.mp e (d129.w (by omega) (by omega))).elim)
                rw [upI_upI, show (nuP cd n (a + 2)).2 + 2 + 1 = (nuP cd n (a + 2)).2 + 3 from rfl]
                have hr6 := hr.up (b := (nuP cd n (a + 2)).2 + 3) (by have := d129.1; omega)
                refine z_vv_5 (n := 154) (d' := 1) C K dX4_readRoad_151 rfl yk_X7_addRoad yv_X7_addRoad kM_RX4_71 (by decide) hR0 rfl rfl (sh_tw hu) (by decide) (Tw.lt0 hu) ?_
                refine c_X7_addRoad (r := r) hu (by rw [upI_p _ _ (by omega)]; exact h1) hr12 ?_
                refine z_iconst (n := 155) (v := (-1)) C dX4_readRoad_154 rfl rfl ?_
                refine z_iret C E dX4_readRoad_155 ?_
                refine hO (dv cd a, dv cd (a + 1), (nuP cd n (a + 2)).1, dv cd ((nuP cd n (a + 2)).2 + 1), dv cd ((nuP cd n (a + 2)).2 + 2), (nuP cd n (a + 2)).2 + 3) (by
                  unfold rdP
                  rw [if_neg (by rw [b8]; decide), if_neg (by rw [b32, ← isDb_eq b32, b41]; decide), if_neg (fun q => q ⟨by have := b74.1; rw [nI_toInt (by omega)] at this; omega, by have := b74.2; rw [nI_toInt (by omega)] at this; omega⟩), if_neg (by rw [b86]; decide), if_neg (by rw [b108]; decide), if_neg (by rw [b129]; decide)]) _ ?_ (fun x hx hx2 => ?_) (fun j hj => ?_) (upI_same _ _ _ _) ?_
                · exact hr6.fr (by rw [upI_row _ _ (by omega), upI_row _ _ (by omega), upI_row _ _ (by omega), upI_row _ _ (by omega), upI_row _ _ (by omega), upI_row _ _ (by omega)]) (by rw [upI_row _ _ (by omega), upI_row _ _ (by omega), upI_row _ _ (by omega), upI_row _ _ (by omega), upI_row _ _ (by omega), upI_row _ _ (by omega)])
                · rw [upI_row _ _ (by omega), upI_row _ _ (by omega), upI_row _ _ (by omega), upI_row _ _ (by omega), upI_row _ _ (by omega), upI_row _ _ (by omega), upI_row _ _ hx]
                · rw [upI_k _ _ hj, upI_p _ _ (by omega), upI_p _ _ (by omega), upI_p _ _ (by omega), upI_p _ _ (by omega), upI_p _ _ (by omega), upI_p _ _ (by omega)]
                · exact ros.add (ho.fr (fun q h2 h3 => upI_row _ _ (by omega))) hu (dv cd a, dv cd (a + 1), (nuP cd n (a + 2)).1, dv cd ((nuP cd n (a + 2)).2 + 1), dv cd ((nuP cd n (a + 2)).2 + 2), (nuP cd n (a + 2)).2 + 3)
              · refine z_ifF_ne (n := 135) (tgt := 140) C (by decide) dX4_readRoad_132 rfl rfl ?_
                refine z_aload_n (n := 136) C 5 dX4_readRoad_135 rfl rfl ?_
                refine z_getI (n := 139) C K fF_RX4_19 dX4_readRoad_136 rfl sh_2 (by decide) ?_
                refine z_iret C E dX4_readRoad_139 ?_
                refine eqQ (upI_same _ _ _ _) (hE ((nuP cd n (a + 2)).2 + 2) (by
                  unfold rdP
                  rw [if_neg (by rw [b8]; decide), if_neg (by rw [b32, ← isDb_eq b32, b41]; decide), if_neg (fun q => q ⟨by have := b74.1; rw [nI_toInt (by omega)] at this; omega, by have := b74.2; rw [nI_toInt (by omega)] at this; omega⟩), if_neg (by rw [b86]; decide), if_neg (by rw [b108]; decide), if_pos b129]) _ (fun q hq => upI_row _ _ hq))
            · refine z_ifF_ne (n := 114) (tgt := 119) C (by decide) dX4_readRoad_111 rfl rfl ?_
              refine z_aload_n (n := 115) C 4 dX4_readRoad_114 rfl rfl ?_
              refine z_getI (n := 118) C K fF_RX4_19 dX4_readRoad_115 rfl sh_2 (by decide) ?_
              refine z_iret C E dX4_readRoad_118 ?_
              refine eqQ (upI_same _ _ _ _) (hE ((nuP cd n (a + 2)).2 + 1) (by
                unfold rdP
                rw [if_neg (by rw [b8]; decide), if_neg (by rw [b32, ← isDb_eq b32, b41]; decide), if_neg (fun q => q ⟨by have := b74.1; rw [nI_toInt (by omega)] at this; omega, by have := b74.2; rw [nI_toInt (by omega)] at this; omega⟩), if_neg (by rw [b86]; decide), if_pos b108]) _ (fun q hq => upI_row _ _ hq))
          · refine z_ifF_ne (n := 92) (tgt := 104) C (by decide) dX4_readRoad_89 rfl rfl ?_
            refine z_aload_n (n := 93) C 5 dX4_readRoad_92 rfl rfl ?_
            refine z_iload_n (n := 94) C 3 dX4_readRoad_93 rfl rfl ?_
            refine z_iload_n (n := 95) C 2 dX4_readRoad_94 rfl rfl ?_
            refine z_iload (n := 97) C 0 dX4_readRoad_95 rfl rfl ?_
            refine z_iconst (n := 98) (v := 0) C dX4_readRoad_97 rfl rfl ?_
            refine z_iconst (n := 99) (v := 0) C dX4_readRoad_98 rfl rfl ?_
            refine z_vv_5 (n := 102) (d' := 1) C K dX4_readRoad_99 rfl yk_X7_addRoad yv_X7_addRoad kM_RX4_71 (by decide) hR0 rfl rfl (sh_tw hu) (by decide) (Tw.lt0 hu) ?_
            refine c_X7_addRoad (r := r) hu (by rw [upI_p _ _ (by omega)]; exact h1) hr12 ?_
            refine z_iconst (n := 103) (v := (-1)) C dX4_readRoad_102 rfl rfl ?_
            refine z_iret C E dX4_readRoad_103 ?_
            refine hO (dv cd a, dv cd (a + 1), (nuP cd n (a + 2)).1, 0, 0, (nuP cd n (a + 2)).2) (by
              unfold rdP
              rw [if_neg (by rw [b8]; decide), if_neg (by rw [b32, ← isDb_eq b32, b41]; decide), if_neg (fun q => q ⟨by have := b74.1; rw [nI_toInt (by omega)] at this; omega, by have := b74.2; rw [nI_toInt (by omega)] at this; omega⟩), if_pos b86]) _ ?_ (fun x hx hx2 => ?_) (fun j hj => ?_) (upI_same _ _ _ _) ?_
            · exact hr3.fr (by rw [upI_row _ _ (by omega), upI_row _ _ (by omega), upI_row _ _ (by omega), upI_row _ _ (by omega), upI_row _ _ (by omega), upI_row _ _ (by omega)]) (by rw [upI_row _ _ (by omega), upI_row _ _ (by omega), upI_row _ _ (by omega), upI_row _ _ (by omega), upI_row _ _ (by omega), upI_row _ _ (by omega)])
            · rw [upI_row _ _ (by omega), upI_row _ _ (by omega), upI_row _ _ (by omega), upI_row _ _ (by omega), upI_row _ _ (by omega), upI_row _ _ (by omega), upI_row _ _ hx]
            · rw [upI_k _ _ hj, upI_p _ _ (by omega), upI_p _ _ (by omega), upI_p _ _ (by omega), upI_p _ _ (by omega), upI_p _ _ (by omega), upI_p _ _ (by omega)]
            · exact ros.add (ho.fr (fun q h2 h3 => upI_row _ _ (by omega))) hu (dv cd a, dv cd (a + 1), (nuP cd n (a + 2)).1, 0, 0, (nuP cd n (a + 2)).2)
        · refine z_ifF_ne (n := 80) (tgt := 83) C (by decide) dX4_readRoad_77 rfl rfl ?_
          refine z_iload (n := 82) C 1 dX4_readRoad_80 rfl rfl ?_
          refine z_iret C E dX4_readRoad_82 ?_
          refine eqQ (upI_same _ _ _ _) (hE (a + 2) (by
            unfold rdP
            rw [if_neg (by rw [b8]; decide), if_neg (by rw [b32, ← isDb_eq b32, b41]; decide), if_pos (fun q => b74 ⟨by rw [nI_toInt (by omega)]; have := q.1; omega, by rw [nI_toInt (by omega)]; have := q.2; omega⟩)]) _ (fun q hq => upI_row _ _ hq))
    · refine z_ifT_eq (tgt := 47) C (by decide) dX4_readRoad_35 rfl ?_
      refine z_aload_n (n := 48) C 1 dX4_readRoad_47 rfl rfl ?_
      refine z_getI (n := 51) C K fF_RX4_19 dX4_readRoad_48 rfl sh_2 (by decide) ?_
      refine z_iret C E dX4_readRoad_51 ?_
      refine eqQ (upI_same _ _ _ _) (hE (a + 1) (by
        unfold rdP
        rw [if_neg (by rw [b8]; decide), if_pos (Or.inl b32)]) _ (fun q hq => upI_row _ _ hq))
  · refine z_ifF_ne (n := 14) (tgt := 19) C (by decide) dX4_readRoad_11 rfl rfl ?_
    refine z_aload_n (n := 15) C 0 dX4_readRoad_14 rfl rfl ?_
    refine z_getI (n := 18) C K fF_RX4_19 dX4_readRoad_15 rfl sh_2 (by decide) ?_
    refine z_iret C E dX4_readRoad_18 ?_
    exact eqQ hr.2.1 (hE a (by unfold rdP; rw [if_pos b8]) I (fun _ _ => rfl))
