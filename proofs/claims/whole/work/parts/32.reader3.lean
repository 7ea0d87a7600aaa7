theorem rdP_le {cd : Nat → Int32} {n nc a p : Nat} (ha : a ≤ n) (h : rdP cd n nc a = .inl p) : p ≤ n := by
  unfold rdP at h
  split at h
  · cases h; exact ha
  · rename_i h1
    have g1 := (isDb_t.mp (by simpa using h1)).1
    split at h
    · cases h; omega
    · rename_i h2
      have g2 := (isDb_t.mp (by have : ¬ isDb cd n (a + 1) 0 (nc - 1) = false := fun e => h2 (Or.inl e)
                                simpa using this)).1
      have g4 := (nuP_le (cd := cd) (n := n) (a := a + 2)).2.2 (by omega)
      split at h
      · cases h; omega
      · split at h
        · cases h
        · rename_i h4
          have g5 := (isCb_t.mp (by simpa using h4)).1
          split at h
          · cases h; omega
          · rename_i h5
            have g6 := (isDb_t.mp (by simpa using h5)).1
            split at h
            · cases h; omega
            · cases h
theorem nI_n1 {p : Nat} (h : p < 2 ^ 31) : ¬ nI p = -1 := by
  rw [fa_eq, nI_toInt h]
  have e : (-1 : Int32).toInt = -1 := by decide
  rw [e]; omega
/-- the reader and the streets u alone may differ -/
def frR (u : Nat) (I0 I : KI) : Prop := ∀ x, x ≠ 2 → x ≠ 3 → ¬ (u ≤ x ∧ x ≤ u + 5) → I x = I0 x
def cpS (I : KI) (k i c : Nat) : KI := fun q j => if q = 3 ∧ j < c then I (68 + 2 * k) (i + j) else I q j
theorem cpS_0 (I : KI) (k i : Nat) : cpS I k i 0 = I := by funext q j; unfold cpS; simp
theorem cpS_p (I : KI) {k i c q : Nat} (h : q ≠ 3) : cpS I k i c q = I q := by funext j; unfold cpS; simp [h]
theorem cpS_s (I : KI) (k i c : Nat) : upI (cpS I k i c) 3 c (I (68 + 2 * k) (i + c)) = cpS I k i (c + 1) := by
  funext q j; unfold upI cpS
  by_cases h : q = 3 ∧ j = c
  · obtain ⟨rfl, rfl⟩ := h
    rw [if_pos ⟨rfl, rfl⟩, if_pos ⟨rfl, by omega⟩]
  · rw [if_neg h]
    by_cases h3 : q = 3 ∧ j < c
    · rw [if_pos h3, if_pos ⟨h3.1, by omega⟩]
    · rw [if_neg h3, if_neg (fun e => h3 ⟨e.1, by have : j ≠ c := fun z => h ⟨e.1, z⟩; omega⟩)]
set_option maxHeartbeats 4000000 in
set_option maxRecDepth 100000 in
theorem c_X4_readSchool {ad : Nat → Nat} {I : KI} {J : KJ} {t : Nat} {cd : Nat → Int32} {n a u nc : Nat} (hr : rdr I cd n a) (hu : Tw u) (h0 : I u 0 = nI nc) (hnc : 2 ≤ nc ∧ nc ≤ 7) {Q : Int32 → KI → KJ → KR → Prop} (hE : isDb cd n a 0 (nc - 1) = false → Q (nI a) I J (rf t)) (hO : isDb cd n a 0 (nc - 1) = true → Q (if a + 1 = n then -1 else nI (a + 1)) (upI (upI I 2 2 (nI (a + 1))) u 2 (nI (dv cd a))) J (rf t)) : Mi 5 yX4_readSchool (wm yX4_readSchool cX4_readSchool 2 (some .int)) [.ref (ad 2), .ref (ad u)] ad I J (rf t) Q := by
  refine mi_of (own := RX4) yk_X4_readSchool rfl (Nat.le_of_ble_eq_true rfl) rfl (fun X hA hnL C K E => ?_)
  subst hA
  have hn2 := hu.n2
  refine z_aload_n (n := 1) C 0 dX4_readSchool_0 rfl rfl ?_
  refine z_iconst (n := 2) (v := 0) C dX4_readSchool_1 rfl rfl ?_
  refine z_aload_n (n := 3) C 1 dX4_readSchool_2 rfl rfl ?_
  refine z_getI (n := 6) C K fF_RX4_61 dX4_readSchool_3 rfl (sh_tw hu) (Tw.lt0 hu) ?_
  refine z_iconst (n := 7) (v := 1) C dX4_readSchool_6 rfl rfl ?_
  refine z_isub (n := 8) C dX4_readSchool_7 rfl ?_
  refine z_vi_2 (n := 11) (d' := 2) C K dX4_readSchool_8 rfl yk_X4_isDigit yv_X4_isDigit kM_RX4_37 (by decide) hR0 rfl rfl sh_2 (by decide) (by decide) ?_
  refine c_X4_isDigit hr (lo := 0) (hi := nc - 1) rfl (nc1 h0 (by omega)) (by omega) (by omega) (fun b8 => ?_) (fun b8 => ?_)
  · refine z_ifT_ne (tgt := 19) C (by decide) dX4_readSchool_11 rfl ?_
    refine z_aload_n (n := 20) C 1 dX4_readSchool_19 rfl rfl ?_
    refine z_aload_n (n := 21) C 0 dX4_readSchool_20 rfl rfl ?_
    refine z_vi_0 (n := 24) (d' := 3) C K dX4_readSchool_21 rfl yk_X4_takeDigit yv_X4_takeDigit kM_RX4_41 (by decide) hR0 rfl rfl sh_2 (by decide) (by decide) ?_
    have d8 := isDb_t.mp b8
    refine c_X4_takeDigit hr (fun _ => ?_) (fun e => (isDb_f.mp e (d8.w (by omega) (by omega))).elim)
    have h100 := hr.2.2.2.1
    have h8 := d8.1
    refine z_putI (n := 27) C K fF_RX4_75 dX4_readSchool_24 rfl (sh_tw hu) (Tw.lt0 hu) ?_
    refine z_aload_n (n := 28) C 0 dX4_readSchool_27 rfl rfl ?_
    refine z_getI (n := 31) C K fF_RX4_19 dX4_readSchool_28 rfl sh_2 (by decide) ?_
    refine z_aload_n (n := 32) C 0 dX4_readSchool_31 rfl rfl ?_
    refine z_getI (n := 35) C K fF_RX4_15 dX4_readSchool_32 rfl sh_2 (by decide) ?_
    rw [upI_p _ _ (show 2 ≠ u by omega), upI_p _ _ (show 2 ≠ u by omega), upI_same, upI_k _ _ (by decide), hr.1]
    refine z_icmp_ne (tgt := 42) (n := 38) C dX4_readSchool_35 rfl rfl (fun c35 => ?_) (fun c35 => ?_)
    · refine z_aload_n (n := 43) C 0 dX4_readSchool_42 rfl rfl ?_
      refine z_getI (n := 46) C K fF_RX4_19 dX4_readSchool_43 rfl sh_2 (by decide) ?_
      refine z_iret C E dX4_readSchool_46 ?_
      refine eqQ ?_ (hO b8)
      rw [if_neg (fun e => c35 (by rw [e]))]
      rw [upI_p _ _ (show 2 ≠ u by omega), upI_same]
    · refine z_iconst (n := 39) (v := (-1)) C dX4_readSchool_38 rfl rfl ?_
      refine z_goto (n := 46) C dX4_readSchool_39 rfl ?_
      refine z_iret C E dX4_readSchool_46 ?_
      refine eqQ ?_ (hO b8)
      rw [if_pos (nI_inj c35 (by omega) (by omega))]
  · refine z_ifF_ne (n := 14) (tgt := 19) C (by decide) dX4_readSchool_11 rfl rfl ?_
    refine z_aload_n (n := 15) C 0 dX4_readSchool_14 rfl rfl ?_
    refine z_getI (n := 18) C K fF_RX4_19 dX4_readSchool_15 rfl sh_2 (by decide) ?_
    refine z_iret C E dX4_readSchool_18 ?_
    exact eqQ hr.2.1 (hE b8)
set_option maxHeartbeats 4000000 in
set_option maxRecDepth 100000 in
theorem l_X4_readRoads {X : KX} {J : KJ} {t : Nat} (C : Cx X RX4 cX4_readRoads 6) (K : Kx X) (hnL : xnL X = 4) {Q : Int32 → KI → KJ → KR → Prop} (E : Ei X .int Q) {cd : Nat → Int32} {n nc u : Nat} (hu : Tw u) (hnc : 2 ≤ nc ∧ nc ≤ 7) {I0 : KI} {res : Nat ⊕ (Nat × Nat × (Nat → Nat → Nat))}
    (hE : ∀ p I', res = .inl p → frR u I0 I' → Q (nI p) I' J (rf t)) (hO : ∀ q I', res = .inr q → frR u I0 I' → I' u 0 = nI nc → I' u 1 = nI q.1 → I' u 2 = nI q.2.1 → ros I' u q.1 q.2.2 → Q (-1) I' J (rf t)) :
    ∀ (f r a : Nat) (rd : Nat → Nat → Nat) (I : KI), f + r = 13 → r ≤ 12 → rrP cd n nc f r a rd = res → frR u I0 I → rdr I cd n a → I u 0 = nI nc → I u 1 = nI r → ros I u r rd → Z X 0 0 (V X I J (rf t)) 2 [(2, .int (nI r)), (0, .ref (xad X 2)), (1, .ref (xad X u))] [] := by
  intro f
  induction f with
  | zero => intro r a rd I h; omega
  | succ f ih =>
    intro r a rd I hfr hr12 hres hf hr h0 h1 ho
    have hn2 := hu.n2
    have h100 := hr.2.2.2.1
    have han := hr.2.2.1
    rw [rrP] at hres
    refine z_iload_n (n := 3) C 0 dX4_readRoads_2 rfl rfl ?_
    refine z_bipush (n := 5) (v := 12) C dX4_readRoads_3 rfl rfl ?_
    refine z_icmpF_gt (n := 8) (tgt := 71) C (by rw [fa_lt, nI_toInt (by omega)]; simp only [Int32.reduceToInt]; omega) dX4_readRoads_5 rfl rfl ?_
    refine z_aload_n (n := 9) C 1 dX4_readRoads_8 rfl rfl ?_
    refine z_bipush (n := 11) (v := 59) C dX4_readRoads_9 rfl rfl ?_
    refine z_vi_1 (n := 14) (d' := 1) C K dX4_readRoads_11 rfl yk_X4_take yv_X4_take kM_RX4_33 (by decide) hR0 rfl rfl sh_2 (by decide) (by decide) ?_
    refine c_X4_take hr (c := 59) rfl (fun b11 => ?_) (fun b11 => ?_)
    · refine z_ifT_ne (tgt := 22) C (by decide) dX4_readRoads_14 rfl ?_
      have d59 := isCb_t.mp b11
      have hr1 := hr.up (b := a + 1) (by have := d59.1; omega)
      rw [if_neg (by rw [b11]; decide)] at hres
      refine z_iload_n (n := 23) C 0 dX4_readRoads_22 rfl rfl ?_
      refine z_if_le (tgt := 41) (n := 26) C dX4_readRoads_23 rfl rfl (fun c23 => ?_) (fun c23 => ?_)
      · rw [fa_le, nI_toInt (by omega)] at c23
        simp only [Int32.reduceToInt] at c23
        rw [if_neg (fun q => by omega)] at hres
        refine z_iload_n (n := 42) C 0 dX4_readRoads_41 rfl rfl ?_
        refine z_bipush (n := 44) (v := 12) C dX4_readRoads_42 rfl rfl ?_
        refine z_icmp_ne (tgt := 52) (n := 47) C dX4_readRoads_44 rfl rfl (fun c44 => ?_) (fun c44 => ?_)
        · refine z_aload_n (n := 53) C 1 dX4_readRoads_52 rfl rfl ?_
          refine z_aload_n (n := 54) C 2 dX4_readRoads_53 rfl rfl ?_
          refine z_vi_1 (n := 57) (d' := 5) C K dX4_readRoads_54 rfl yk_X4_readRoad yv_X4_readRoad kM_RX4_58 (by decide) hR0 rfl rfl sh_2 (by decide) (by decide) ?_
          have hne12 : ¬ r = 12 := fun e => c44 (by rw [e]; rfl)
          rw [if_neg hne12] at hres
          refine c_X4_readRoad (r := r) (rd := rd) hr1 hu (by rw [upI_p _ _ (by omega)]; exact h0) hnc (by rw [upI_p _ _ (by omega)]; exact h1) (by omega) (ho.fr (fun q h2 h3 => upI_row _ _ (by omega))) (fun p hp I1 hf1 => ?_) (fun q hq I1 g1 g2 g3 g4 g5 => ?_)
          · refine z_istore_n (n := 58) (L' := [(3, _), (2, _), (0, _), (1, _)]) C dX4_readRoads_57 rfl (by rw [hnL]; decide) rfl ?_
            refine z_iload_n (n := 59) C 0 dX4_readRoads_58 rfl rfl ?_
            refine z_iconst (n := 60) (v := (-1)) C dX4_readRoads_59 rfl rfl ?_
            refine z_icmpF_eq (n := 63) (tgt := 65) C (nI_n1 (by have := rdP_le hr1.2.2.1 hp; omega)) dX4_readRoads_60 rfl rfl ?_
            refine z_iload_n (n := 64) C 0 dX4_readRoads_63 rfl rfl ?_
            refine z_iret C E dX4_readRoads_64 ?_
            rw [hp] at hres
            exact hE p I1 hres.symm (fun x hx hx3 hx2 => by rw [hf1 x hx, upI_row _ _ hx]; exact hf x hx hx3 hx2)
          · refine z_istore_n (n := 58) (L' := [(3, _), (2, _), (0, _), (1, _)]) C dX4_readRoads_57 rfl (by rw [hnL]; decide) rfl ?_
            refine z_iload_n (n := 59) C 0 dX4_readRoads_58 rfl rfl ?_
            refine z_iconst (n := 60) (v := (-1)) C dX4_readRoads_59 rfl rfl ?_
            refine z_icmpT_eq (tgt := 65) C (by decide) dX4_readRoads_60 rfl ?_
            refine z_iincG (n := 68) (c := 1) (L' := [(2, _), (3, _), (0, _), (1, _)]) C 1 dX4_readRoads_65 rfl rfl rfl (by rw [hnL]; decide) rfl ?_
            refine z_goto (n := 2) C dX4_readRoads_68 rfl ?_
            refine z_sub (L' := [(2, _), (0, _), (1, _)]) [0, 2, 3] rfl ?_
            rw [nI_1]
            rw [hq] at hres
            exact ih (r + 1) q.2.2.2.2.2 (rdU rd r q) I1 (by omega) (by omega) hres (fun x hx hx3 hx2 => by rw [g2 x hx hx2, upI_row _ _ hx]; exact hf x hx hx3 hx2) g1 (by rw [g3 0 (by decide), upI_p _ _ (by omega)]; exact h0) g4 g5
        · refine z_aload_n (n := 48) C 1 dX4_readRoads_47 rfl rfl ?_
          refine z_getI (n := 51) C K fF_RX4_19 dX4_readRoads_48 rfl sh_2 (by decide) ?_
          refine z_iret C E dX4_readRoads_51 ?_
          have e12 : r = 12 := nI_inj (b := 12) c44 (by omega) (by decide)
          rw [if_pos e12] at hres
          exact eqQ (upI_same _ _ _ _) (hE (a + 1) _ hres.symm (fun x hx hx3 hx2 => by rw [upI_row _ _ hx]; exact hf x hx hx3 hx2))
      · refine z_aload_n (n := 27) C 1 dX4_readRoads_26 rfl rfl ?_
        refine z_bipush (n := 29) (v := 115) C dX4_readRoads_27 rfl rfl ?_
        refine z_vi_1 (n := 32) (d' := 1) C K dX4_readRoads_29 rfl yk_X4_take yv_X4_take kM_RX4_33 (by decide) hR0 rfl rfl sh_2 (by decide) (by decide) ?_
        refine c_X4_take hr1 (c := 115) rfl (fun b29 => ?_) (fun b29 => ?_)
        · refine z_ifF_eq (n := 35) (tgt := 41) C (by decide) dX4_readRoads_32 rfl rfl ?_
          refine z_aload_n (n := 36) C 1 dX4_readRoads_35 rfl rfl ?_
          refine z_aload_n (n := 37) C 2 dX4_readRoads_36 rfl rfl ?_
          refine z_vi_1 (n := 40) (d' := 5) C K dX4_readRoads_37 rfl yk_X4_readSchool yv_X4_readSchool kM_RX4_55 (by decide) hR0 rfl rfl sh_2 (by decide) (by decide) ?_
          have d115 := isCb_t.mp b29
          rw [fa_le, nI_toInt (by omega)] at c23
          simp only [Int32.reduceToInt] at c23
          rw [if_pos ⟨by omega, b29⟩] at hres
          rw [upI_upI, show a + 1 + 1 = a + 2 from rfl]
          have hr2 := hr.up (b := a + 2) (by have := d115.1; omega)
          refine c_X4_readSchool hr2 hu (by rw [upI_p _ _ (by omega)]; exact h0) hnc (fun hd => ?_) (fun hd => ?_)
          · refine z_iret C E dX4_readRoads_40 ?_
            rw [if_pos hd] at hres
            exact hE (a + 2) _ hres.symm (fun x hx hx3 hx2 => by rw [upI_row _ _ hx]; exact hf x hx hx3 hx2)
          · refine z_iret C E dX4_readRoads_40 ?_
            rw [if_neg (by rw [hd]; decide)] at hres
            have fr2 : frR u I0 (upI (upI I 2 2 (nI (a + 2 + 1))) u 2 (nI (dv cd (a + 2)))) := fun x hx hx3 hx2 => by rw [upI_row _ _ (by omega), upI_row _ _ hx]; exact hf x hx hx3 hx2
            rw [upI_upI]
            by_cases hn : a + 2 + 1 = n
            · rw [if_pos hn] at hres ⊢
              exact hO (r, dv cd (a + 2), rd) _ hres.symm fr2 (by rw [upI_k _ _ (by decide), upI_p _ _ (by omega)]; exact h0) (by rw [upI_k _ _ (by decide), upI_p _ _ (by omega)]; exact h1) (upI_same _ _ _ _) (ho.fr (fun q h2 h3 => by rw [upI_row _ _ (by omega), upI_row _ _ (by omega)]))
            · rw [if_neg hn] at hres ⊢
              exact hE (a + 2 + 1) _ hres.symm fr2
        · refine z_ifT_eq (tgt := 41) C (by decide) dX4_readRoads_32 rfl ?_
          rw [fa_le, nI_toInt (by omega)] at c23
          simp only [Int32.reduceToInt] at c23
          rw [if_neg (fun q => by rw [b29] at q; exact absurd q.2 (by decide))] at hres
          refine z_iload_n (n := 42) C 0 dX4_readRoads_41 rfl rfl ?_
          refine z_bipush (n := 44) (v := 12) C dX4_readRoads_42 rfl rfl ?_
          refine z_icmp_ne (tgt := 52) (n := 47) C dX4_readRoads_44 rfl rfl (fun c44 => ?_) (fun c44 => ?_)
          · refine z_aload_n (n := 53) C 1 dX4_readRoads_52 rfl rfl ?_
            refine z_aload_n (n := 54) C 2 dX4_readRoads_53 rfl rfl ?_
            refine z_vi_1 (n := 57) (d' := 5) C K dX4_readRoads_54 rfl yk_X4_readRoad yv_X4_readRoad kM_RX4_58 (by decide) hR0 rfl rfl sh_2 (by decide) (by decide) ?_
            have hne12 : ¬ r = 12 := fun e => c44 (by rw [e]; rfl)
            rw [if_neg hne12] at hres
            refine c_X4_readRoad (r := r) (rd := rd) hr1 hu (by rw [upI_p _ _ (by omega)]; exact h0) hnc (by rw [upI_p _ _ (by omega)]; exact h1) (by omega) (ho.fr (fun q h2 h3 => upI_row _ _ (by omega))) (fun p hp I1 hf1 => ?_) (fun q hq I1 g1 g2 g3 g4 g5 => ?_)
            · refine z_istore_n (n := 58) (L' := [(3, _), (2, _), (0, _), (1, _)]) C dX4_readRoads_57 rfl (by rw [hnL]; decide) rfl ?_
              refine z_iload_n (n := 59) C 0 dX4_readRoads_58 rfl rfl ?_
              refine z_iconst (n := 60) (v := (-1)) C dX4_readRoads_59 rfl rfl ?_
              refine z_icmpF_eq (n := 63) (tgt := 65) C (nI_n1 (by have := rdP_le hr1.2.2.1 hp; omega)) dX4_readRoads_60 rfl rfl ?_
              refine z_iload_n (n := 64) C 0 dX4_readRoads_63 rfl rfl ?_
              refine z_iret C E dX4_readRoads_64 ?_
              rw [hp] at hres
              exact hE p I1 hres.symm (fun x hx hx3 hx2 => by rw [hf1 x hx, upI_row _ _ hx]; exact hf x hx hx3 hx2)
            · refine z_istore_n (n := 58) (L' := [(3, _), (2, _), (0, _), (1, _)]) C dX4_readRoads_57 rfl (by rw [hnL]; decide) rfl ?_
              refine z_iload_n (n := 59) C 0 dX4_readRoads_58 rfl rfl ?_
              refine z_iconst (n := 60) (v := (-1)) C dX4_readRoads_59 rfl rfl ?_
              refine z_icmpT_eq (tgt := 65) C (by decide) dX4_readRoads_60 rfl ?_
              refine z_iincG (n := 68) (c := 1) (L' := [(2, _), (3, _), (0, _), (1, _)]) C 1 dX4_readRoads_65 rfl rfl rfl (by rw [hnL]; decide) rfl ?_
              refine z_goto (n := 2) C dX4_readRoads_68 rfl ?_
              refine z_sub (L' := [(2, _), (0, _), (1, _)]) [0, 2, 3] rfl ?_
              rw [nI_1]
              rw [hq] at hres
              exact ih (r + 1) q.2.2.2.2.2 (rdU rd r q) I1 (by omega) (by omega) hres (fun x hx hx3 hx2 => by rw [g2 x hx hx2, upI_row _ _ hx]; exact hf x hx hx3 hx2) g1 (by rw [g3 0 (by decide), upI_p _ _ (by omega)]; exact h0) g4 g5
          · refine z_aload_n (n := 48) C 1 dX4_readRoads_47 rfl rfl ?_
            refine z_getI (n := 51) C K fF_RX4_19 dX4_readRoads_48 rfl sh_2 (by decide) ?_
            refine z_iret C E dX4_readRoads_51 ?_
            have e12 : r = 12 := nI_inj (b := 12) c44 (by omega) (by decide)
            rw [if_pos e12] at hres
            exact eqQ (upI_same _ _ _ _) (hE (a + 1) _ hres.symm (fun x hx hx3 hx2 => by rw [upI_row _ _ hx]; exact hf x hx hx3 hx2))
    · refine z_ifF_ne (n := 17) (tgt := 22) C (by decide) dX4_readRoads_14 rfl rfl ?_
      refine z_aload_n (n := 18) C 1 dX4_readRoads_17 rfl rfl ?_
      refine z_getI (n := 21) C K fF_RX4_19 dX4_readRoads_18 rfl sh_2 (by decide) ?_
      refine z_iret C E dX4_readRoads_21 ?_
      rw [if_pos b11] at hres
      exact eqQ hr.2.1 (hE a I hres.symm hf)
set_option maxHeartbeats 4000000 in
set_option maxRecDepth 100000 in
theorem c_X4_readRoads {ad : Nat → Nat} {I : KI} {J : KJ} {t : Nat} {cd : Nat → Int32} {n a nc u : Nat} (hr : rdr I cd n a) (hu : Tw u) (hnc : 2 ≤ nc ∧ nc ≤ 7) (h0 : I u 0 = nI nc) (h1 : I u 1 = nI 0) {Q : Int32 → KI → KJ → KR → Prop} (hE : ∀ p I', rrP cd n nc 13 0 a (fun _ _ => 0) = .inl p → frR u I I' → Q (nI p) I' J (rf t)) (hO : ∀ q I', rrP cd n nc 13 0 a (fun _ _ => 0) = .inr q → frR u I I' → I' u 0 = nI nc → I' u 1 = nI q.1 → I' u 2 = nI q.2.1 → ros I' u q.1 q.2.2 → Q (-1) I' J (rf t)) : Mi 6 yX4_readRoads (wm yX4_readRoads cX4_readRoads 4 (some .int)) [.ref (ad 2), .ref (ad u)] ad I J (rf t) Q := by
  refine mi_of (own := RX4) yk_X4_readRoads rfl (Nat.le_of_ble_eq_true rfl) rfl (fun X hA hnL C K E => ?_)
  subst hA
  refine z_iconst (n := 1) (v := 0) C dX4_readRoads_0 rfl rfl ?_
  refine z_istore_n (n := 2) (L' := [(2, _), (0, _), (1, _)]) C dX4_readRoads_1 rfl (by rw [hnL]; decide) rfl ?_
  exact l_X4_readRoads C K hnL E hu hnc hE hO 13 0 a (fun _ _ => 0) I (by omega) (by omega) rfl (fun _ _ _ _ => rfl) hr h0 h1 (fun k hk => by omega)
