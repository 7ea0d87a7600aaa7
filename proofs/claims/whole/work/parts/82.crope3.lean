def pO (I : KI) (r y : Nat) : Bool := decide (¬ I (75 + y) 2 < nI r)
def pW (I : KI) (set y : Nat) : Bool := decide (¬ I (75 + y) 4 &&& nI set = 0)
theorem msk_s (p : Nat → Bool) (n : Nat) : msk p (n + 1) = msk p n ||| (if p n then 2 ^ n else 0) := rfl
def rpOk (c : Nat) (setv rv : Int32) : Bool := isSB c setv && (decide (popS setv.toNatClampNeg ≤ 8) && decide (isB 4 11 rv))
theorem rpOk_t {c : Nat} {setv rv : Int32} : rpOk c setv rv = true ↔ isSB c setv = true ∧ popS setv.toNatClampNeg ≤ 8 ∧ isB 4 11 rv := by
  unfold rpOk; rw [Bool.and_eq_true, Bool.and_eq_true, decide_eq_true_eq, decide_eq_true_eq]
theorem pop_pos {m : Nat} (h : m < 1024) (h0 : 0 < m) : 1 ≤ popS m := by
  rw [popS_of (show m < 2 ^ 10 from h) (by decide)]
  obtain ⟨x, hx⟩ := Nat.exists_testBit_of_ne_zero (show m ≠ 0 by omega)
  have := pop_clr hx 10 (bit_lt10 h hx)
  omega
theorem rpL_le {m : Nat} (h : m ≤ 8) : rpL m ≤ 8 := by unfold rpL; omega
def frdV (b : Nat × List Nat) (L : Nat) (kv : Int32) : Int32 := if b.1 = 0 then -9 else if kv = -1 then nI (b.1 - 1) else if kv.toNatClampNeg < L then seatI (b.2.getD (L - 1 - kv.toNatClampNeg) 99) else -9
set_option maxHeartbeats 4000000 in
set_option maxRecDepth 100000 in
theorem l_X5_search {X : KX} {J : KJ} {t : Nat} (C : Cx X RX5 cX5_search 12) (K : Kx X) (hnL : xnL X = 6) {I0 : KI} {set r cnt : Nat} (hN : ∀ I1, (∀ q, q ≠ 57 → q ≠ 58 → q ≠ 59 → I1 q = I0 q) → (∀ j, j ≠ 7 → j ≠ 8 → I1 57 j = I0 57 j) → I1 57 7 = nI (msk (pO I0 r) 10) → I1 57 8 = nI (msk (pW I0 set) 10) → (∀ y, y < 10 → I1 58 y = I0 (75 + y) 4 &&& nI set ∧ I1 59 y = I0 (75 + y) 5 &&& nI set) → Z X 0 0 (V X I1 J (rf t)) 129 [(0, .ref (xad X 57)), (1, .ref (xad X 48)), (2, .int (nI set)), (3, .int (nI r)), (4, .int (nI cnt))] []) : ∀ (f x : Nat) (I1 : KI), 10 - x < f → (x ≤ 10 ∧ (∀ q, q ≠ 57 → q ≠ 58 → q ≠ 59 → I1 q = I0 q) ∧ (∀ j, j ≠ 7 → j ≠ 8 → I1 57 j = I0 57 j) ∧ I1 57 7 = nI (msk (pO I0 r) x) ∧ I1 57 8 = nI (msk (pW I0 set) x) ∧ ∀ y, y < x → I1 58 y = I0 (75 + y) 4 &&& nI set ∧ I1 59 y = I0 (75 + y) 5 &&& nI set) → Z X 0 0 (V X I1 J (rf t)) 29 [(5, .int (nI x)), (0, .ref (xad X 57)), (1, .ref (xad X 48)), (2, .int (nI set)), (3, .int (nI r)), (4, .int (nI cnt))] [] := by
  intro f
  induction f with
  | zero => intro x I1 h; omega
  | succ f ih =>
    intro x I1 hf hi
    obtain ⟨hx10, hfr, hfj, ho, hw, hv⟩ := hi
    refine z_iload (n := 31) C 0 dX5_search_29 rfl rfl ?_
    refine z_bipush (n := 33) (v := 10) C dX5_search_31 rfl rfl ?_
    refine z_icmp_ge (tgt := 129) (n := 36) C dX5_search_33 rfl rfl (fun c33 => ?_) (fun c33 => ?_)
    · refine z_sub (L' := [(0, _), (1, _), (2, _), (3, _), (4, _)]) [1, 2, 3, 4, 5] rfl ?_
      rw [fa_le, nI_toInt (by omega)] at c33
      simp only [Int32.reduceToInt] at c33
      have e : x = 10 := by omega
      subst e
      exact hN I1 hfr hfj ho hw hv
    · rw [fa_le, nI_toInt (by omega)] at c33
      simp only [Int32.reduceToInt] at c33
      have hx : x < 10 := by omega
      refine z_aload_n (n := 37) C 1 dX5_search_36 rfl rfl ?_
      refine z_getR (n := 40) (q := 58) C K fF_RX5_9 dX5_search_37 rfl rfl sh_57 (by decide) rfl ?_
      refine z_iload (n := 42) C 0 dX5_search_40 rfl rfl ?_
      refine z_aload_n (n := 43) C 2 dX5_search_42 rfl rfl ?_
      refine z_iload (n := 45) C 0 dX5_search_43 rfl rfl ?_
      refine z_aaldN (n := 46) (q := (75 + x)) (ci := 0) C K x dX5_search_45 rfl (by decide) sh_48 (by decide) rfl hx (by decide) (rf_children hx) ?_
      refine z_getI (n := 49) C K fF_RX5_47 dX5_search_46 rfl (sh_child hx) (lt_child hx) ?_
      rw [hfr (75 + x) (by omega) (by omega) (by omega)]
      refine z_iload_n (n := 50) C 3 dX5_search_49 rfl rfl ?_
      refine z_iand (n := 51) C dX5_search_50 rfl ?_
      refine z_iastN (n := 52) C K x dX5_search_51 rfl sh_58 (by decide) rfl hx (by decide) ?_
      refine z_aload_n (n := 53) C 1 dX5_search_52 rfl rfl ?_
      refine z_getR (n := 56) (q := 59) C K fF_RX5_15 dX5_search_53 rfl rfl sh_57 (by decide) rfl ?_
      refine z_iload (n := 58) C 0 dX5_search_56 rfl rfl ?_
      refine z_aload_n (n := 59) C 2 dX5_search_58 rfl rfl ?_
      refine z_iload (n := 61) C 0 dX5_search_59 rfl rfl ?_
      refine z_aaldN (n := 62) (q := (75 + x)) (ci := 0) C K x dX5_search_61 rfl (by decide) sh_48 (by decide) rfl hx (by decide) (rf_children hx) ?_
      refine z_getI (n := 65) C K fF_RX5_51 dX5_search_62 rfl (sh_child hx) (lt_child hx) ?_
      rw [upI_row _ _ (show 75 + x ≠ 58 by omega), hfr (75 + x) (by omega) (by omega) (by omega)]
      refine z_iload_n (n := 66) C 3 dX5_search_65 rfl rfl ?_
      refine z_iand (n := 67) C dX5_search_66 rfl ?_
      refine z_iastN (n := 68) C K x dX5_search_67 rfl sh_59 (by decide) rfl hx (by decide) ?_
      refine z_aload_n (n := 69) C 1 dX5_search_68 rfl rfl ?_
      refine z_dup (n := 70) C dX5_search_69 rfl rfl ?_
      refine z_getI (n := 73) C K fF_RX5_35 dX5_search_70 rfl sh_57 (by decide) ?_
      rw [upI_row _ _ (by decide), upI_row _ _ (by decide), ho]
      refine z_aload_n (n := 74) C 2 dX5_search_73 rfl rfl ?_
      refine z_iload (n := 76) C 0 dX5_search_74 rfl rfl ?_
      refine z_aaldN (n := 77) (q := (75 + x)) (ci := 0) C K x dX5_search_76 rfl (by decide) sh_48 (by decide) rfl hx (by decide) (rf_children hx) ?_
      refine z_getI (n := 80) C K fF_RX5_53 dX5_search_77 rfl (sh_child hx) (lt_child hx) ?_
      refine z_iload_n (n := 81) C 4 dX5_search_80 rfl rfl ?_
      rw [upI_row _ _ (show 75 + x ≠ 59 by omega), upI_row _ _ (show 75 + x ≠ 58 by omega), hfr (75 + x) (by omega) (by omega) (by omega)]
      refine z_icmp_lt (tgt := 91) (n := 84) C dX5_search_81 rfl rfl (fun c81 => ?_) (fun c81 => ?_)
      · refine z_iconst (n := 92) (v := 0) C dX5_search_91 rfl rfl ?_
        rw [show (0 : Int32) = nI 0 from rfl]
        have em : msk (pO I0 r) x ||| 0 = msk (pO I0 r) (x + 1) := by rw [msk_s, if_neg (show ¬ pO I0 r x = true by unfold pO; rw [decide_eq_true_eq]; exact fun q => q c81)]
        refine z_ior (n := 93) C dX5_search_92 rfl ?_
        rw [or_nI, em]
        refine z_putI (n := 96) C K fF_RX5_35 dX5_search_93 rfl sh_57 (by decide) ?_
        refine z_aload_n (n := 97) C 1 dX5_search_96 rfl rfl ?_
        refine z_dup (n := 98) C dX5_search_97 rfl rfl ?_
        refine z_getI (n := 101) C K fF_RX5_38 dX5_search_98 rfl sh_57 (by decide) ?_
        rw [upI_k _ _ (by decide), upI_row _ _ (by decide), upI_row _ _ (by decide), hw]
        refine z_aload_n (n := 102) C 1 dX5_search_101 rfl rfl ?_
        refine z_getR (n := 105) (q := 58) C K fF_RX5_9 dX5_search_102 rfl rfl sh_57 (by decide) rfl ?_
        refine z_iload (n := 107) C 0 dX5_search_105 rfl rfl ?_
        refine z_ialdN (n := 108) C K x dX5_search_107 rfl sh_58 (by decide) rfl hx (by decide) ?_
        rw [upI_row _ _ (by decide), upI_row _ _ (by decide), upI_same]
        refine z_if_eq (tgt := 118) (n := 111) C dX5_search_108 rfl rfl (fun c108 => ?_) (fun c108 => ?_)
        · refine z_iconst (n := 119) (v := 0) C dX5_search_118 rfl rfl ?_
          rw [show (0 : Int32) = nI 0 from rfl]
          have em2 : msk (pW I0 set) x ||| 0 = msk (pW I0 set) (x + 1) := by rw [msk_s, if_neg (show ¬ pW I0 set x = true by unfold pW; rw [decide_eq_true_eq]; exact fun q => q c108)]
          refine z_ior (n := 120) C dX5_search_119 rfl ?_
          rw [or_nI, em2]
          refine z_putI (n := 123) C K fF_RX5_38 dX5_search_120 rfl sh_57 (by decide) ?_
          refine z_iincG (n := 126) (c := 1) (L' := [(5, _), (0, _), (1, _), (2, _), (3, _), (4, _)]) C 0 dX5_search_123 rfl rfl rfl (by rw [hnL]; decide) rfl ?_
          refine z_goto (n := 29) C dX5_search_126 rfl ?_
          rw [nI_1]
          exact ih (x + 1) _ (by omega) ⟨by omega, fun q q1 q2 q3 => by rw [upI_row _ _ q1, upI_row _ _ q1, upI_row _ _ q3, upI_row _ _ q2]; exact hfr q q1 q2 q3, fun j j1 j2 => by rw [upI_k _ _ j2, upI_k _ _ j1, upI_row _ _ (by decide), upI_row _ _ (by decide)]; exact hfj j j1 j2, by rw [upI_k _ _ (by decide), upI_same], by rw [upI_same], fun y hy => by
            rw [upI_row _ _ (show 58 ≠ 57 by decide), upI_row _ _ (show 58 ≠ 57 by decide), upI_row _ _ (show 58 ≠ 59 by decide), upI_row _ _ (show 59 ≠ 57 by decide), upI_row _ _ (show 59 ≠ 57 by decide)]
            by_cases e : y = x
            · subst e; exact ⟨upI_same _ _ _ _, upI_same _ _ _ _⟩
            · rw [upI_k _ _ e, upI_k _ _ e, upI_row _ _ (show 59 ≠ 58 by decide)]; exact hv y (by omega)⟩
        · refine z_iconst (n := 112) (v := 1) C dX5_search_111 rfl rfl ?_
          refine z_iload (n := 114) C 0 dX5_search_112 rfl rfl ?_
          refine z_ishl (n := 115) C dX5_search_114 rfl ?_
          refine z_goto (n := 119) C dX5_search_115 rfl ?_
          rw [one_shl x (by omega)]
          have em2 : msk (pW I0 set) x ||| 2 ^ x = msk (pW I0 set) (x + 1) := by rw [msk_s, if_pos (show pW I0 set x = true by unfold pW; rw [decide_eq_true_eq]; exact c108)]
          refine z_ior (n := 120) C dX5_search_119 rfl ?_
          rw [or_nI, em2]
          refine z_putI (n := 123) C K fF_RX5_38 dX5_search_120 rfl sh_57 (by decide) ?_
          refine z_iincG (n := 126) (c := 1) (L' := [(5, _), (0, _), (1, _), (2, _), (3, _), (4, _)]) C 0 dX5_search_123 rfl rfl rfl (by rw [hnL]; decide) rfl ?_
          refine z_goto (n := 29) C dX5_search_126 rfl ?_
          rw [nI_1]
          exact ih (x + 1) _ (by omega) ⟨by omega, fun q q1 q2 q3 => by rw [upI_row _ _ q1, upI_row _ _ q1, upI_row _ _ q3, upI_row _ _ q2]; exact hfr q q1 q2 q3, fun j j1 j2 => by rw [upI_k _ _ j2, upI_k _ _ j1, upI_row _ _ (by decide), upI_row _ _ (by decide)]; exact hfj j j1 j2, by rw [upI_k _ _ (by decide), upI_same], by rw [upI_same], fun y hy => by
            rw [upI_row _ _ (show 58 ≠ 57 by decide), upI_row _ _ (show 58 ≠ 57 by decide), upI_row _ _ (show 58 ≠ 59 by decide), upI_row _ _ (show 59 ≠ 57 by decide), upI_row _ _ (show 59 ≠ 57 by decide)]
            by_cases e : y = x
            · subst e; exact ⟨upI_same _ _ _ _, upI_same _ _ _ _⟩
            · rw [upI_k _ _ e, upI_k _ _ e, upI_row _ _ (show 59 ≠ 58 by decide)]; exact hv y (by omega)⟩
      · refine z_iconst (n := 85) (v := 1) C dX5_search_84 rfl rfl ?_
        refine z_iload (n := 87) C 0 dX5_search_85 rfl rfl ?_
        refine z_ishl (n := 88) C dX5_search_87 rfl ?_
        refine z_goto (n := 92) C dX5_search_88 rfl ?_
        rw [one_shl x (by omega)]
        have em : msk (pO I0 r) x ||| 2 ^ x = msk (pO I0 r) (x + 1) := by rw [msk_s, if_pos (show pO I0 r x = true by unfold pO; rw [decide_eq_true_eq]; exact c81)]
        refine z_ior (n := 93) C dX5_search_92 rfl ?_
        rw [or_nI, em]
        refine z_putI (n := 96) C K fF_RX5_35 dX5_search_93 rfl sh_57 (by decide) ?_
        refine z_aload_n (n := 97) C 1 dX5_search_96 rfl rfl ?_
        refine z_dup (n := 98) C dX5_search_97 rfl rfl ?_
        refine z_getI (n := 101) C K fF_RX5_38 dX5_search_98 rfl sh_57 (by decide) ?_
        rw [upI_k _ _ (by decide), upI_row _ _ (by decide), upI_row _ _ (by decide), hw]
        refine z_aload_n (n := 102) C 1 dX5_search_101 rfl rfl ?_
        refine z_getR (n := 105) (q := 58) C K fF_RX5_9 dX5_search_102 rfl rfl sh_57 (by decide) rfl ?_
        refine z_iload (n := 107) C 0 dX5_search_105 rfl rfl ?_
        refine z_ialdN (n := 108) C K x dX5_search_107 rfl sh_58 (by decide) rfl hx (by decide) ?_
        rw [upI_row _ _ (by decide), upI_row _ _ (by decide), upI_same]
        refine z_if_eq (tgt := 118) (n := 111) C dX5_search_108 rfl rfl (fun c108 => ?_) (fun c108 => ?_)
        · refine z_iconst (n := 119) (v := 0) C dX5_search_118 rfl rfl ?_
          rw [show (0 : Int32) = nI 0 from rfl]
          have em2 : msk (pW I0 set) x ||| 0 = msk (pW I0 set) (x + 1) := by rw [msk_s, if_neg (show ¬ pW I0 set x = true by unfold pW; rw [decide_eq_true_eq]; exact fun q => q c108)]
          refine z_ior (n := 120) C dX5_search_119 rfl ?_
          rw [or_nI, em2]
          refine z_putI (n := 123) C K fF_RX5_38 dX5_search_120 rfl sh_57 (by decide) ?_
          refine z_iincG (n := 126) (c := 1) (L' := [(5, _), (0, _), (1, _), (2, _), (3, _), (4, _)]) C 0 dX5_search_123 rfl rfl rfl (by rw [hnL]; decide) rfl ?_
          refine z_goto (n := 29) C dX5_search_126 rfl ?_
          rw [nI_1]
          exact ih (x + 1) _ (by omega) ⟨by omega, fun q q1 q2 q3 => by rw [upI_row _ _ q1, upI_row _ _ q1, upI_row _ _ q3, upI_row _ _ q2]; exact hfr q q1 q2 q3, fun j j1 j2 => by rw [upI_k _ _ j2, upI_k _ _ j1, upI_row _ _ (by decide), upI_row _ _ (by decide)]; exact hfj j j1 j2, by rw [upI_k _ _ (by decide), upI_same], by rw [upI_same], fun y hy => by
            rw [upI_row _ _ (show 58 ≠ 57 by decide), upI_row _ _ (show 58 ≠ 57 by decide), upI_row _ _ (show 58 ≠ 59 by decide), upI_row _ _ (show 59 ≠ 57 by decide), upI_row _ _ (show 59 ≠ 57 by decide)]
            by_cases e : y = x
            · subst e; exact ⟨upI_same _ _ _ _, upI_same _ _ _ _⟩
            · rw [upI_k _ _ e, upI_k _ _ e, upI_row _ _ (show 59 ≠ 58 by decide)]; exact hv y (by omega)⟩
        · refine z_iconst (n := 112) (v := 1) C dX5_search_111 rfl rfl ?_
          refine z_iload (n := 114) C 0 dX5_search_112 rfl rfl ?_
          refine z_ishl (n := 115) C dX5_search_114 rfl ?_
          refine z_goto (n := 119) C dX5_search_115 rfl ?_
          rw [one_shl x (by omega)]
          have em2 : msk (pW I0 set) x ||| 2 ^ x = msk (pW I0 set) (x + 1) := by rw [msk_s, if_pos (show pW I0 set x = true by unfold pW; rw [decide_eq_true_eq]; exact c108)]
          refine z_ior (n := 120) C dX5_search_119 rfl ?_
          rw [or_nI, em2]
          refine z_putI (n := 123) C K fF_RX5_38 dX5_search_120 rfl sh_57 (by decide) ?_
          refine z_iincG (n := 126) (c := 1) (L' := [(5, _), (0, _), (1, _), (2, _), (3, _), (4, _)]) C 0 dX5_search_123 rfl rfl rfl (by rw [hnL]; decide) rfl ?_
          refine z_goto (n := 29) C dX5_search_126 rfl ?_
          rw [nI_1]
          exact ih (x + 1) _ (by omega) ⟨by omega, fun q q1 q2 q3 => by rw [upI_row _ _ q1, upI_row _ _ q1, upI_row _ _ q3, upI_row _ _ q2]; exact hfr q q1 q2 q3, fun j j1 j2 => by rw [upI_k _ _ j2, upI_k _ _ j1, upI_row _ _ (by decide), upI_row _ _ (by decide)]; exact hfj j j1 j2, by rw [upI_k _ _ (by decide), upI_same], by rw [upI_same], fun y hy => by
            rw [upI_row _ _ (show 58 ≠ 57 by decide), upI_row _ _ (show 58 ≠ 57 by decide), upI_row _ _ (show 58 ≠ 59 by decide), upI_row _ _ (show 59 ≠ 57 by decide), upI_row _ _ (show 59 ≠ 57 by decide)]
            by_cases e : y = x
            · subst e; exact ⟨upI_same _ _ _ _, upI_same _ _ _ _⟩
            · rw [upI_k _ _ e, upI_k _ _ e, upI_row _ _ (show 59 ≠ 58 by decide)]; exact hv y (by omega)⟩
set_option maxHeartbeats 4000000 in
set_option maxRecDepth 100000 in
theorem c_X5_search {ad : Nat → Nat} {I : KI} {J : KJ} {t : Nat} {n : Nat} {c : Nat} {ki co ag re : Nat → Nat} {T : Nat → Nat → Nat} (hk : cKd I c ki co ag re T) (okk : okKd n c ki co ag re T) {set r cnt : Nat} (hset0 : 0 < set) (hset : set < 2 ^ c) (hp8 : popS set ≤ 8) (hr11 : r ≤ 11) (hcnt : cnt ≤ 1)  {Q : KI → KJ → KR → Prop} (hQ : ∀ I' f', (∀ q, ¬ (57 ≤ q ∧ q ≤ 61) → I' q = I q) → (cnt = 1 → f' = (rpLs set T ag r).length) → I' 57 9 = nI f' → I' 57 5 = nI (rpL (popS set)) → (cnt ≠ 1 → I' 57 10 = nI (rpB set T ag r).1 + (-1) ∧ (rpB set T ag r).1 ≤ 10 ∧ ((rpB set T ag r).1 ≠ 0 → rowA I' 61 (rpB set T ag r).2 ∧ (rpB set T ag r).2.length = rpL (popS set))) → Q I' J (rf t))  : Mv 12 yX5_search (wm yX5_search cX5_search 6 none) [.ref (ad 57), .ref (ad 48), .int (nI set), .int (nI r), .int (nI cnt)] ad I J (rf t) Q := by
  refine mv_of (own := RX5) yk_X5_search rfl (Nat.le_of_ble_eq_true rfl) rfl (fun X hA hnL C K E => ?_)
  subst hA
  refine z_aload_n (n := 1) C 0 dX5_search_0 rfl rfl ?_
  refine z_iload (n := 3) C 4 dX5_search_1 rfl rfl ?_
  refine z_putB (n := 6) C K fF_RX5_24 dX5_search_3 rfl sh_57 (by decide) (by rcases (show cnt = 0 ∨ cnt = 1 by omega) with e | e <;> rw [e] <;> decide) ?_
  refine z_aload_n (n := 7) C 0 dX5_search_6 rfl rfl ?_
  refine z_iconst (n := 8) (v := 0) C dX5_search_7 rfl rfl ?_
  refine z_putI (n := 11) C K fF_RX5_41 dX5_search_8 rfl sh_57 (by decide) ?_
  refine z_aload_n (n := 12) C 0 dX5_search_11 rfl rfl ?_
  refine z_iconst (n := 13) (v := (-1)) C dX5_search_12 rfl rfl ?_
  refine z_putI (n := 16) C K fF_RX5_44 dX5_search_13 rfl sh_57 (by decide) ?_
  refine z_aload_n (n := 17) C 0 dX5_search_16 rfl rfl ?_
  refine z_iconst (n := 18) (v := 0) C dX5_search_17 rfl rfl ?_
  refine z_putI (n := 21) C K fF_RX5_35 dX5_search_18 rfl sh_57 (by decide) ?_
  refine z_aload_n (n := 22) C 0 dX5_search_21 rfl rfl ?_
  refine z_iconst (n := 23) (v := 0) C dX5_search_22 rfl rfl ?_
  refine z_putI (n := 26) C K fF_RX5_38 dX5_search_23 rfl sh_57 (by decide) ?_
  refine z_iconst (n := 27) (v := 0) C dX5_search_26 rfl rfl ?_
  refine z_istore (n := 29) (L' := [(5, _), (0, _), (1, _), (2, _), (3, _), (4, _)]) C dX5_search_27 rfl (by rw [hnL]; decide) rfl ?_
  obtain ⟨I0, eI⟩ : ∃ I0, (upI (upI (upI (upI (upI I 57 4 (nI cnt)) 57 9 0) 57 10 (-1)) 57 7 0) 57 8 0) = I0 := ⟨_, rfl⟩
  have hI0 : ∀ q, q ≠ 57 → I0 q = I q := fun q hq => by rw [← eI, upI_row _ _ hq, upI_row _ _ hq, upI_row _ _ hq, upI_row _ _ hq, upI_row _ _ hq]
  have hI4 : I0 57 4 = nI cnt := by rw [← eI, upI_k _ _ (by decide), upI_k _ _ (by decide), upI_k _ _ (by decide), upI_k _ _ (by decide), upI_same]
  have hI9 : I0 57 9 = 0 := by rw [← eI, upI_k _ _ (by decide), upI_k _ _ (by decide), upI_k _ _ (by decide), upI_same]
  have hI10 : I0 57 10 = -1 := by rw [← eI, upI_k _ _ (by decide), upI_k _ _ (by decide), upI_same]
  have hI7 : I0 57 7 = 0 := by rw [← eI, upI_k _ _ (by decide), upI_same]
  have hI8 : I0 57 8 = 0 := by rw [← eI, upI_same]
  rw [eI]
  have h1024 : 2 ^ c ≤ 2 ^ 10 := Nat.pow_le_pow_right (by decide) okk.1
  have hm1 := pop_pos (m := set) (by omega) hset0
  have hL8 := rpL_le hp8
  refine l_X5_search C K hnL (I0 := I0) (fun I1 hf1 hj1 ho hw hv => ?_) 11 0 I0 (by omega) ⟨Nat.zero_le _, fun _ _ _ _ => rfl, fun _ _ _ => rfl, hI7, hI8, fun y hy => by omega⟩
  refine z_iload_n (n := 130) C 2 dX5_search_129 rfl rfl ?_
  refine z_si_1 (n := 133) (d' := 1) C K dX5_search_130 rfl yk_J6_bitCount_0f7a4 kT_yJ6_bitCount_0f7a4 kM_RX5_56 (by decide) hR0 rfl ?_
  refine c_J6_bitCount_0f7a4 (by omega) ?_
  refine z_bipush (n := 135) (v := 8) C dX5_search_133 rfl rfl ?_
  refine z_min (n := 138) C dX5_search_135 rfl kM_RX5_62 (by decide) hR0 rfl ?_
  rw [show (8 : Int32) = nI 8 from rfl, min_nI (by omega) (by decide), show min (popS set) 8 = popS set by omega]
  refine z_istore (n := 140) (L' := [(5, _), (0, _), (1, _), (2, _), (3, _), (4, _)]) C dX5_search_138 rfl (by rw [hnL]; decide) rfl ?_
  refine z_aload_n (n := 141) C 1 dX5_search_140 rfl rfl ?_
  refine z_iload (n := 143) C 0 dX5_search_141 rfl rfl ?_
  refine z_iconst (n := 144) (v := 1) C dX5_search_143 rfl rfl ?_
  refine z_iadd (n := 145) C dX5_search_144 rfl ?_
  rw [nI_1]
  refine z_iconst (n := 146) (v := 2) C dX5_search_145 rfl rfl ?_
  refine z_idiv (n := 147) C dX5_search_146 rfl (by decide) ?_
  rw [show (2 : Int32) = nI 2 from rfl, pk_div (by omega) (by decide) (by decide)]
  refine z_iconst (n := 148) (v := 2) C dX5_search_147 rfl rfl ?_
  refine z_imul (n := 149) C dX5_search_148 rfl ?_
  rw [show (2 : Int32) = nI 2 from rfl, mul_nI, show (popS set + 1) / 2 * 2 = rpL (popS set) from rfl]
  refine z_putI (n := 152) C K fF_RX5_28 dX5_search_149 rfl sh_57 (by decide) ?_
  refine z_aload_n (n := 153) C 1 dX5_search_152 rfl rfl ?_
  refine z_iload (n := 155) C 0 dX5_search_153 rfl rfl ?_
  refine z_aload_n (n := 156) C 1 dX5_search_155 rfl rfl ?_
  refine z_getI (n := 159) C K fF_RX5_28 dX5_search_156 rfl sh_57 (by decide) ?_
  rw [upI_same]
  refine z_icmp_ge (tgt := 171) (n := 162) C dX5_search_159 rfl rfl (fun c159 => ?_) (fun c159 => ?_)
  · rw [fa_le, nI_toInt (by omega), nI_toInt (by omega)] at c159
    refine z_bipush (n := 173) (v := (-9)) C dX5_search_171 rfl rfl ?_
    have hev : ¬ popS set % 2 = 1 := by unfold rpL at c159; omega
    rw [show (-9 : Int32) = empI (rpE (popS set)) by unfold rpE; rw [if_neg hev]; rfl]
    refine z_putI (n := 176) C K fF_RX5_32 dX5_search_173 rfl sh_57 (by decide) ?_
    obtain ⟨I2, eI2⟩ : ∃ I2, upI (upI I1 57 5 (nI (rpL (popS set)))) 57 6 (empI (rpE (popS set))) = I2 := ⟨_, rfl⟩
    rw [eI2]
    have hI2 : ∀ q, q ≠ 57 → I2 q = I1 q := fun q hq => by rw [← eI2, upI_row _ _ hq, upI_row _ _ hq]
    have hI2j : ∀ j, j ≠ 5 → j ≠ 6 → I2 57 j = I1 57 j := fun j j5 j6 => by rw [← eI2, upI_k _ _ j6, upI_k _ _ j5]
    have hkx : ∀ x, x < c → I0 (75 + x) 2 = nI (ag x) ∧ I0 (75 + x) 4 = nI (tm T c x 1) ∧ I0 (75 + x) 5 = nI (tm T c x 2) := fun x hx => by
      rw [hI0 (75 + x) (by omega)]
      exact ⟨(hk.2 x hx).2.2.1, (hk.2 x hx).2.2.2.2.1, (hk.2 x hx).2.2.2.2.2⟩
    have hc10 := okk.1
    have hCC : rpC I2 cnt (rpL (popS set)) (rpE (popS set)) (msk (pW I0 set) 10) (msk (pO I0 r) 10) c (fun x => tm T c x 1 &&& set) (fun x => tm T c x 2 &&& set) := by
      refine ⟨?_, ?_, ?_, ?_, ?_, fun x hx => ?_⟩
      · rw [hI2j 4 (by decide) (by decide), hj1 4 (by decide) (by decide), hI4]
      · rw [← eI2, upI_k _ _ (by decide), upI_same]
      · rw [← eI2, upI_same]
      · rw [hI2j 7 (by decide) (by decide), ho]
      · rw [hI2j 8 (by decide) (by decide), hw]
      · rw [hI2 58 (by decide), hI2 59 (by decide), (hv x (by omega)).1, (hv x (by omega)).2, (hkx x hx).2.1, (hkx x hx).2.2, and_nI, and_nI]
        exact ⟨rfl, rfl⟩
    have hWlt := msk_lt1024 (pW I0 set) (n := 10) (by decide)
    have hOlt := msk_lt1024 (pO I0 r) (n := 10) (by decide)
    have hob : ∀ x, x < c → (msk (pO I0 r) 10).testBit x = decide (r ≤ ag x) := fun x hx => by
      have hax := (okk.2.1 x hx).2.2.2.1
      rw [msk_bit, decide_eq_true (show x < 10 by omega), Bool.true_and]
      unfold pO
      have hlt : (nI (ag x) < nI r) ↔ ag x < r := by
        rw [fa_lt, nI_toInt (by omega), nI_toInt (by omega)]; omega
      rw [(hkx x hx).1, Bool.eq_iff_iff, decide_eq_true_eq, decide_eq_true_eq, hlt]
      omega
    have hcb : ∀ x, set.testBit x = true → x < c := fun x hx => by
      by_cases e : x < c
      · exact e
      · rw [Nat.testBit_lt_two_pow (Nat.lt_of_lt_of_le hset (Nat.pow_le_pow_right (by decide) (by omega)))] at hx; cases hx
    have hwb1 : ∀ x y, set.testBit x = true → set.testBit y = true → T x y = 1 → (msk (pW I0 set) 10).testBit x = true := fun x y hx hy hT => by
      have hxc := hcb x hx
      have hyc := hcb y hy
      rw [msk_bit, decide_eq_true (show x < 10 by omega), Bool.true_and]
      unfold pW
      rw [(hkx x hxc).2.1, and_nI, decide_eq_true_eq]
      intro q
      have q2 := nI_inj (b := 0) q (by have := Nat.and_le_right (n := tm T c x 1) (m := set); omega) (by decide)
      have q3 := tm_bit (T := T) (c := c) (x := x) (v := 1) hy hyc
      rw [q2, Nat.zero_testBit, hT] at q3
      cases q3
    refine z_aload_n (n := 177) C 1 dX5_search_176 rfl rfl ?_
    refine z_iconst (n := 178) (v := 0) C dX5_search_177 rfl rfl ?_
    refine z_iload_n (n := 179) C 3 dX5_search_178 rfl rfl ?_
    refine z_iconst (n := 180) (v := 0) C dX5_search_179 rfl rfl ?_
    refine z_sv_4 (n := 183) (d' := (rpL (popS set) + 3)) C K dX5_search_180 rfl yk_X5_fill kT_yX5_fill kM_RX5_68 (by omega) hR0 rfl ?_
    refine fill_all (J := J) (t := t) (ad := xad X) (r := r) (ag := ag) okk.1 hset hL8 hWlt hob hOlt (fun x y hx hy hT => ⟨hwb1 x y hx hy hT, hwb1 y x hy hx (by rw [(okk.2.2 y x (hcb y hy) (hcb x hx)).2.1]; exact hT)⟩) (by unfold rpE rpL; split <;> omega) (by unfold rpE rpL; split <;> omega) hcnt (by unfold rpL; omega) (fun x y hx hy => (okk.2.2 x y hx hy).2.1) (rpL (popS set)) I2 [] set 0 (0, []) _ (by simp) (fun _ => by unfold rpL; omega) hCC (fun i hi => absurd hi (Nat.not_lt_zero _)) (fun y hy => by cases hy) (fun x => by simp) (by omega) (by rw [hI2j 9 (by decide) (by decide), hj1 9 (by decide) (by decide), hI9]; rfl) (by rw [hI2j 10 (by decide) (by decide), hj1 10 (by decide) (by decide), hI10]; rfl) (by decide) (fun e => absurd rfl e) (fun I3 f3 b3 hf3 hj3 _ hc3 hq3 h93 h103 hb3 hs3 => ?_)
    refine z_vret C E dX5_search_183 ?_
    exact hQ I3 f3 (fun q hq => by rw [hf3 q (by omega) (by omega) (by omega), hI2 q (by omega), hf1 q (by omega) (by omega) (by omega), hI0 q (by omega)]) (fun e => by rw [hc3 e, Nat.zero_add]; rfl) h93 (by rw [hj3 5 (by decide) (by decide)]; exact hCC.2.1) (fun e => by have q := hq3 e; subst q; exact ⟨h103, hb3, hs3⟩)
  · rw [fa_le, nI_toInt (by omega), nI_toInt (by omega)] at c159
    refine z_aload_n (n := 163) C 1 dX5_search_162 rfl rfl ?_
    refine z_getI (n := 166) C K fF_RX5_28 dX5_search_163 rfl sh_57 (by decide) ?_
    rw [upI_same]
    refine z_iconst (n := 167) (v := 2) C dX5_search_166 rfl rfl ?_
    refine z_isub (n := 168) C dX5_search_167 rfl ?_
    rw [show nI (rpL (popS set)) - 2 = nI (rpL (popS set) - 2) from nI_sub (b := 2) (by unfold rpL; omega) (by omega)]
    refine z_goto (n := 173) C dX5_search_168 rfl ?_
    have hev : popS set % 2 = 1 := by unfold rpL at c159; omega
    rw [show nI (rpL (popS set) - 2) = empI (rpE (popS set)) by unfold rpE; rw [if_pos hev]; unfold empI; rw [if_neg (by omega)]]
    refine z_putI (n := 176) C K fF_RX5_32 dX5_search_173 rfl sh_57 (by decide) ?_
    obtain ⟨I2, eI2⟩ : ∃ I2, upI (upI I1 57 5 (nI (rpL (popS set)))) 57 6 (empI (rpE (popS set))) = I2 := ⟨_, rfl⟩
    rw [eI2]
    have hI2 : ∀ q, q ≠ 57 → I2 q = I1 q := fun q hq => by rw [← eI2, upI_row _ _ hq, upI_row _ _ hq]
    have hI2j : ∀ j, j ≠ 5 → j ≠ 6 → I2 57 j = I1 57 j := fun j j5 j6 => by rw [← eI2, upI_k _ _ j6, upI_k _ _ j5]
    have hkx : ∀ x, x < c → I0 (75 + x) 2 = nI (ag x) ∧ I0 (75 + x) 4 = nI (tm T c x 1) ∧ I0 (75 + x) 5 = nI (tm T c x 2) := fun x hx => by
      rw [hI0 (75 + x) (by omega)]
      exact ⟨(hk.2 x hx).2.2.1, (hk.2 x hx).2.2.2.2.1, (hk.2 x hx).2.2.2.2.2⟩
    have hc10 := okk.1
    have hCC : rpC I2 cnt (rpL (popS set)) (rpE (popS set)) (msk (pW I0 set) 10) (msk (pO I0 r) 10) c (fun x => tm T c x 1 &&& set) (fun x => tm T c x 2 &&& set) := by
      refine ⟨?_, ?_, ?_, ?_, ?_, fun x hx => ?_⟩
      · rw [hI2j 4 (by decide) (by decide), hj1 4 (by decide) (by decide), hI4]
      · rw [← eI2, upI_k _ _ (by decide), upI_same]
      · rw [← eI2, upI_same]
      · rw [hI2j 7 (by decide) (by decide), ho]
      · rw [hI2j 8 (by decide) (by decide), hw]
      · rw [hI2 58 (by decide), hI2 59 (by decide), (hv x (by omega)).1, (hv x (by omega)).2, (hkx x hx).2.1, (hkx x hx).2.2, and_nI, and_nI]
        exact ⟨rfl, rfl⟩
    have hWlt := msk_lt1024 (pW I0 set) (n := 10) (by decide)
    have hOlt := msk_lt1024 (pO I0 r) (n := 10) (by decide)
    have hob : ∀ x, x < c → (msk (pO I0 r) 10).testBit x = decide (r ≤ ag x) := fun x hx => by
      have hax := (okk.2.1 x hx).2.2.2.1
      rw [msk_bit, decide_eq_true (show x < 10 by omega), Bool.true_and]
      unfold pO
      have hlt : (nI (ag x) < nI r) ↔ ag x < r := by
        rw [fa_lt, nI_toInt (by omega), nI_toInt (by omega)]; omega
      rw [(hkx x hx).1, Bool.eq_iff_iff, decide_eq_true_eq, decide_eq_true_eq, hlt]
      omega
    have hcb : ∀ x, set.testBit x = true → x < c := fun x hx => by
      by_cases e : x < c
      · exact e
      · rw [Nat.testBit_lt_two_pow (Nat.lt_of_lt_of_le hset (Nat.pow_le_pow_right (by decide) (by omega)))] at hx; cases hx
    have hwb1 : ∀ x y, set.testBit x = true → set.testBit y = true → T x y = 1 → (msk (pW I0 set) 10).testBit x = true := fun x y hx hy hT => by
      have hxc := hcb x hx
      have hyc := hcb y hy
      rw [msk_bit, decide_eq_true (show x < 10 by omega), Bool.true_and]
      unfold pW
      rw [(hkx x hxc).2.1, and_nI, decide_eq_true_eq]
      intro q
      have q2 := nI_inj (b := 0) q (by have := Nat.and_le_right (n := tm T c x 1) (m := set); omega) (by decide)
      have q3 := tm_bit (T := T) (c := c) (x := x) (v := 1) hy hyc
      rw [q2, Nat.zero_testBit, hT] at q3
      cases q3
    refine z_aload_n (n := 177) C 1 dX5_search_176 rfl rfl ?_
    refine z_iconst (n := 178) (v := 0) C dX5_search_177 rfl rfl ?_
    refine z_iload_n (n := 179) C 3 dX5_search_178 rfl rfl ?_
    refine z_iconst (n := 180) (v := 0) C dX5_search_179 rfl rfl ?_
    refine z_sv_4 (n := 183) (d' := (rpL (popS set) + 3)) C K dX5_search_180 rfl yk_X5_fill kT_yX5_fill kM_RX5_68 (by omega) hR0 rfl ?_
    refine fill_all (J := J) (t := t) (ad := xad X) (r := r) (ag := ag) okk.1 hset hL8 hWlt hob hOlt (fun x y hx hy hT => ⟨hwb1 x y hx hy hT, hwb1 y x hy hx (by rw [(okk.2.2 y x (hcb y hy) (hcb x hx)).2.1]; exact hT)⟩) (by unfold rpE rpL; split <;> omega) (by unfold rpE rpL; split <;> omega) hcnt (by unfold rpL; omega) (fun x y hx hy => (okk.2.2 x y hx hy).2.1) (rpL (popS set)) I2 [] set 0 (0, []) _ (by simp) (fun _ => by unfold rpL; omega) hCC (fun i hi => absurd hi (Nat.not_lt_zero _)) (fun y hy => by cases hy) (fun x => by simp) (by omega) (by rw [hI2j 9 (by decide) (by decide), hj1 9 (by decide) (by decide), hI9]; rfl) (by rw [hI2j 10 (by decide) (by decide), hj1 10 (by decide) (by decide), hI10]; rfl) (by decide) (fun e => absurd rfl e) (fun I3 f3 b3 hf3 hj3 _ hc3 hq3 h93 h103 hb3 hs3 => ?_)
    refine z_vret C E dX5_search_183 ?_
    exact hQ I3 f3 (fun q hq => by rw [hf3 q (by omega) (by omega) (by omega), hI2 q (by omega), hf1 q (by omega) (by omega) (by omega), hI0 q (by omega)]) (fun e => by rw [hc3 e, Nat.zero_add]; rfl) h93 (by rw [hj3 5 (by decide) (by decide)]; exact hCC.2.1) (fun e => by have q := hq3 e; subst q; exact ⟨h103, hb3, hs3⟩)
set_option maxHeartbeats 4000000 in
set_option maxRecDepth 100000 in
theorem c_X9_isRopeFor {ad : Nat → Nat} {I : KI} {J : KJ} {t : Nat} {n : Nat} {c : Nat} {ki co ag re : Nat → Nat} {T : Nat → Nat → Nat} (hk : cKd I c ki co ag re T) (okk : okKd n c ki co ag re T) {setv rv : Int32} {Q : Int32 → KI → KJ → KR → Prop} (h1 : rpOk c setv rv = true → Q 1 I J (rf t)) (h0 : ¬ rpOk c setv rv = true → Q 0 I J (rf t)) : Mi 3 yX9_isRopeFor (wm yX9_isRopeFor cX9_isRopeFor 3 (some .boolean)) [.ref (ad 0), .int (setv), .int (rv)] ad I J (rf t) Q := by
  refine mi_of (own := RX9) yk_X9_isRopeFor rfl (Nat.le_of_ble_eq_true rfl) rfl (fun X hA hnL C K E => ?_)
  subst hA
  refine z_aload_n (n := 1) C 0 dX9_isRopeFor_0 rfl rfl ?_
  refine z_iload_n (n := 2) C 1 dX9_isRopeFor_1 rfl rfl ?_
  refine z_vi_1 (n := 5) (d' := 1) C K dX9_isRopeFor_2 rfl yk_X9_isSet yv_X9_isSet kM_RX9_200 (by decide) hR0 rfl rfl sh_0 (by decide) (by decide) ?_
  refine c_X9_isSet hk.1 okk.1 (fun b2 => ?_) (fun b2 => ?_)
  · refine z_ifF_eq (n := 8) (tgt := 28) C (by decide) dX9_isRopeFor_5 rfl rfl ?_
    obtain ⟨set, hset0, hset, rfl⟩ := b2
    have hS0 : isS c (nI set) := ⟨set, hset0, hset, rfl⟩
    have h1024 : 2 ^ c ≤ 2 ^ 10 := Nat.pow_le_pow_right (by decide) okk.1
    have e1 : (nI set).toNatClampNeg = set := nI_clamp (by omega)
    refine z_iload_n (n := 9) C 1 dX9_isRopeFor_8 rfl rfl ?_
    refine z_si_1 (n := 12) (d' := 1) C K dX9_isRopeFor_9 rfl yk_J6_bitCount_0f7a4 kT_yJ6_bitCount_0f7a4 kM_RX9_255 (by decide) hR0 rfl ?_
    refine c_J6_bitCount_0f7a4 (by omega) ?_
    have hpl : popS set ≤ 10 := popS_le (show set < 2 ^ 10 by omega) (by decide)
    refine z_bipush (n := 14) (v := 8) C dX9_isRopeFor_12 rfl rfl ?_
    refine z_icmp_gt (tgt := 28) (n := 17) C dX9_isRopeFor_14 rfl rfl (fun c14 => ?_) (fun c14 => ?_)
    · rw [fa_lt, nI_toInt (by omega)] at c14
      simp only [Int32.reduceToInt] at c14
      refine z_iconst (n := 29) (v := 0) C dX9_isRopeFor_28 rfl rfl ?_
      refine z_zret C E dX9_isRopeFor_29 (by decide) ?_
      exact h0 (fun q => by have := (rpOk_t.mp q).2.1; rw [e1] at this; omega)
    · rw [fa_lt, nI_toInt (by omega)] at c14
      simp only [Int32.reduceToInt] at c14
      refine z_iload_n (n := 18) C 2 dX9_isRopeFor_17 rfl rfl ?_
      refine z_si_1 (n := 21) (d' := 2) C K dX9_isRopeFor_18 rfl yk_X9_isAge kT_yX9_isAge kM_RX9_155 (by decide) hR0 rfl ?_
      refine c_X9_isAge (fun b18 => ?_) (fun b18 => ?_)
      · refine z_ifF_eq (n := 24) (tgt := 28) C (by decide) dX9_isRopeFor_21 rfl rfl ?_
        refine z_iconst (n := 25) (v := 1) C dX9_isRopeFor_24 rfl rfl ?_
        refine z_goto (n := 29) C dX9_isRopeFor_25 rfl ?_
        refine z_zret C E dX9_isRopeFor_29 (by decide) ?_
        exact h1 (rpOk_t.mpr ⟨(isSB_t okk.1).mpr hS0, by rw [e1]; omega, b18⟩)
      · refine z_ifT_eq (tgt := 28) C (by decide) dX9_isRopeFor_21 rfl ?_
        refine z_iconst (n := 29) (v := 0) C dX9_isRopeFor_28 rfl rfl ?_
        refine z_zret C E dX9_isRopeFor_29 (by decide) ?_
        exact h0 (fun q => b18 (rpOk_t.mp q).2.2)
  · refine z_ifT_eq (tgt := 28) C (by decide) dX9_isRopeFor_5 rfl ?_
    refine z_iconst (n := 29) (v := 0) C dX9_isRopeFor_28 rfl rfl ?_
    refine z_zret C E dX9_isRopeFor_29 (by decide) ?_
    exact h0 (fun q => b2 ((isSB_t okk.1).mp (rpOk_t.mp q).1))
set_option maxHeartbeats 4000000 in
set_option maxRecDepth 100000 in
theorem c_X9_ways {ad : Nat → Nat} {I : KI} {J : KJ} {t : Nat} {n : Nat} {c : Nat} {ki co ag re : Nat → Nat} {T : Nat → Nat → Nat} (hk : cKd I c ki co ag re T) (okk : okKd n c ki co ag re T) {setv rv : Int32} {Q : Int64 → KI → KJ → KR → Prop} (hR : ¬ rpOk c setv rv = true → Q (-9223372036854775808) I J (rf t)) (hS : ∀ I', rpOk c setv rv = true → (∀ q, ¬ (57 ≤ q ∧ q ≤ 61) → I' q = I q) → Q (lN (rpLs setv.toNatClampNeg T ag rv.toNatClampNeg).length) I' J (rf t)) : Ml 13 yX9_ways (wm yX9_ways cX9_ways 3 (some .long)) [.ref (ad 0), .int (setv), .int (rv)] ad I J (rf t) Q := by
  refine ml_of (own := RX9) yk_X9_ways rfl (Nat.le_of_ble_eq_true rfl) rfl (fun X hA hnL C K E => ?_)
  subst hA
  refine z_aload_n (n := 1) C 0 dX9_ways_0 rfl rfl ?_
  refine z_iload_n (n := 2) C 1 dX9_ways_1 rfl rfl ?_
  refine z_iload_n (n := 3) C 2 dX9_ways_2 rfl rfl ?_
  refine z_vi_2 (n := 6) (d' := 3) C K dX9_ways_3 rfl yk_X9_isRopeFor yv_X9_isRopeFor kM_RX9_264 (by decide) hR0 rfl rfl sh_0 (by decide) (by decide) ?_
  refine c_X9_isRopeFor hk okk (fun b3 => ?_) (fun b3 => ?_)
  · refine z_ifT_ne (tgt := 13) C (by decide) dX9_ways_6 rfl ?_
    obtain ⟨q1, q2, q3⟩ := rpOk_t.mp b3
    obtain ⟨set, hset0, hset, rfl⟩ := (isSB_t okk.1).mp q1
    obtain ⟨r, hr11, rfl⟩ := isB_of (h := 11) (show isB 0 (11 : Nat) rv from ⟨by have := q3.1; omega, q3.2⟩)
    have h1024 : 2 ^ c ≤ 2 ^ 10 := Nat.pow_le_pow_right (by decide) okk.1
    have e1 : (nI set).toNatClampNeg = set := nI_clamp (by omega)
    have e2 : (nI r).toNatClampNeg = r := nI_clamp (by omega)
    rw [e1] at q2
    have hL8 := rpL_le q2
    rw [e1, e2] at hS
    refine z_aload_n (n := 14) C 0 dX9_ways_13 rfl rfl ?_
    refine z_getR (n := 17) (q := 57) C K fF_RX9_54 dX9_ways_14 rfl rfl sh_0 (by decide) rfl ?_
    refine z_aload_n (n := 18) C 0 dX9_ways_17 rfl rfl ?_
    refine z_getR (n := 21) (q := 48) C K fF_RX9_36 dX9_ways_18 rfl rfl sh_0 (by decide) rfl ?_
    refine z_iload_n (n := 22) C 1 dX9_ways_21 rfl rfl ?_
    refine z_iload_n (n := 23) C 2 dX9_ways_22 rfl rfl ?_
    refine z_iconst (n := 24) (v := 1) C dX9_ways_23 rfl rfl ?_
    refine z_vv_4 (n := 27) (d' := 12) C K dX9_ways_24 rfl yk_X5_search yv_X5_search kM_RX9_267 (by decide) hR0 rfl rfl sh_57 (by decide) (by decide) ?_
    refine c_X5_search (cnt := 1) hk okk hset0 hset q2 hr11 (by decide) (fun I2 f2 hf2 hc2 h9 h5 hbest => ?_)
    refine z_aload_n (n := 28) C 0 dX9_ways_27 rfl rfl ?_
    refine z_getR (n := 31) (q := 57) C K fF_RX9_54 dX9_ways_28 rfl rfl sh_0 (by decide) rfl ?_
    refine z_getI (n := 34) C K fF_RX9_271 dX9_ways_31 rfl sh_57 (by decide) ?_
    rw [h9, hc2 rfl]
    refine z_i2l (n := 35) C dX9_ways_34 rfl ?_
    refine z_lret C E dX9_ways_35 ?_
    have hlen := fillS_len (cdS set T ag r) (rpE (popS set)) (rpL (popS set)) []
    have hlen2 : 10 ^ rpL (popS set) ≤ 10 ^ 8 := Nat.pow_le_pow_right (by decide) hL8
    have hlen3 : (rpLs set T ag r).length ≤ 100000000 := Nat.le_trans hlen (Nat.le_trans hlen2 (by decide))
    rw [lN_i2l (by omega)]
    exact hS I2 b3 hf2
  · refine z_ifF_ne (n := 9) (tgt := 13) C (by decide) dX9_ways_6 rfl rfl ?_
    refine z_ldc2 (n := 12) C dX9_ways_9 kK_RX9_198 rfl ?_
    refine z_lret C E dX9_ways_12 ?_
    exact hR b3
def frdR (c : Nat) (setv rv kv : Int32) : Option Int32 := if ¬ rpOk c setv rv = true then some (-2) else if ¬ isB (-1) 7 kv then some (-1) else none
set_option maxHeartbeats 4000000 in
set_option maxRecDepth 100000 in
theorem c_X9_friendly {ad : Nat → Nat} {I : KI} {J : KJ} {t : Nat} {n : Nat} {c : Nat} {ki co ag re : Nat → Nat} {T : Nat → Nat → Nat} (hk : cKd I c ki co ag re T) (okk : okKd n c ki co ag re T) {setv rv kv : Int32} {Q : Int32 → KI → KJ → KR → Prop} (hR : ∀ v, frdR c setv rv kv = some v → Q v I J (rf t)) (hS : ∀ I', frdR c setv rv kv = none → (∀ q, ¬ (57 ≤ q ∧ q ≤ 61) → I' q = I q) → Q (frdV (rpB setv.toNatClampNeg T ag rv.toNatClampNeg) (rpL (popS setv.toNatClampNeg)) kv) I' J (rf t)) : Mi 13 yX9_friendly (wm yX9_friendly cX9_friendly 4 (some .int)) [.ref (ad 0), .int (setv), .int (rv), .int (kv)] ad I J (rf t) Q := by
  refine mi_of (own := RX9) yk_X9_friendly rfl (Nat.le_of_ble_eq_true rfl) rfl (fun X hA hnL C K E => ?_)
  subst hA
  refine z_aload_n (n := 1) C 0 dX9_friendly_0 rfl rfl ?_
  refine z_iload_n (n := 2) C 1 dX9_friendly_1 rfl rfl ?_
  refine z_iload_n (n := 3) C 2 dX9_friendly_2 rfl rfl ?_
  refine z_vi_2 (n := 6) (d' := 3) C K dX9_friendly_3 rfl yk_X9_isRopeFor yv_X9_isRopeFor kM_RX9_264 (by decide) hR0 rfl rfl sh_0 (by decide) (by decide) ?_
  refine c_X9_isRopeFor hk okk (fun b3 => ?_) (fun b3 => ?_)
  · refine z_ifT_ne (tgt := 12) C (by decide) dX9_friendly_6 rfl ?_
    refine z_iload_n (n := 13) C 3 dX9_friendly_12 rfl rfl ?_
    refine z_iconst (n := 14) (v := (-1)) C dX9_friendly_13 rfl rfl ?_
    refine z_bipush (n := 16) (v := 7) C dX9_friendly_14 rfl rfl ?_
    refine z_si_3 (n := 19) (d' := 1) C K dX9_friendly_16 rfl yk_X9_isWithin kT_yX9_isWithin kM_RX9_131 (by decide) hR0 rfl ?_
    refine c_inB (lo := -1) (hi := 7) (by decide) (by decide) (fun b16 => ?_) (fun b16 => ?_)
    · refine z_ifT_ne (tgt := 24) C (by decide) dX9_friendly_19 rfl ?_
      obtain ⟨q1, q2, q3⟩ := rpOk_t.mp b3
      obtain ⟨set, hset0, hset, rfl⟩ := (isSB_t okk.1).mp q1
      obtain ⟨r, hr11, rfl⟩ := isB_of (h := 11) (show isB 0 (11 : Nat) rv from ⟨by have := q3.1; omega, q3.2⟩)
      have h1024 : 2 ^ c ≤ 2 ^ 10 := Nat.pow_le_pow_right (by decide) okk.1
      have e1 : (nI set).toNatClampNeg = set := nI_clamp (by omega)
      have e2 : (nI r).toNatClampNeg = r := nI_clamp (by omega)
      rw [e1] at q2
      have hL8 := rpL_le q2
      rw [e1, e2] at hS
      refine z_aload_n (n := 25) C 0 dX9_friendly_24 rfl rfl ?_
      refine z_getR (n := 28) (q := 57) C K fF_RX9_54 dX9_friendly_25 rfl rfl sh_0 (by decide) rfl ?_
      refine z_aload_n (n := 29) C 0 dX9_friendly_28 rfl rfl ?_
      refine z_getR (n := 32) (q := 48) C K fF_RX9_36 dX9_friendly_29 rfl rfl sh_0 (by decide) rfl ?_
      refine z_iload_n (n := 33) C 1 dX9_friendly_32 rfl rfl ?_
      refine z_iload_n (n := 34) C 2 dX9_friendly_33 rfl rfl ?_
      refine z_iconst (n := 35) (v := 0) C dX9_friendly_34 rfl rfl ?_
      refine z_vv_4 (n := 38) (d' := 12) C K dX9_friendly_35 rfl yk_X5_search yv_X5_search kM_RX9_267 (by decide) hR0 rfl rfl sh_57 (by decide) (by decide) ?_
      refine c_X5_search (cnt := 0) hk okk hset0 hset q2 hr11 (by decide) (fun I2 f2 hf2 hc2 h9 h5 hbest => ?_)
      obtain ⟨h10, hb, hs⟩ := hbest (by decide)
      refine z_aload_n (n := 39) C 0 dX9_friendly_38 rfl rfl ?_
      refine z_getR (n := 42) (q := 57) C K fF_RX9_54 dX9_friendly_39 rfl rfl sh_0 (by decide) rfl ?_
      refine z_getI (n := 45) C K fF_RX9_274 dX9_friendly_42 rfl sh_57 (by decide) ?_
      refine z_if_ge (tgt := 51) (n := 48) C dX9_friendly_45 rfl rfl (fun c45 => ?_) (fun c45 => ?_)
      · rw [h10, fa_le, nI_m1 _ (by omega)] at c45
        simp only [Int32.reduceToInt] at c45
        have hne : (rpB set T ag r).1 ≠ 0 := by omega
        refine z_iload_n (n := 52) C 3 dX9_friendly_51 rfl rfl ?_
        refine z_iconst (n := 53) (v := (-1)) C dX9_friendly_52 rfl rfl ?_
        refine z_icmp_ne (tgt := 64) (n := 56) C dX9_friendly_53 rfl rfl (fun c53 => ?_) (fun c53 => ?_)
        · have hk0 : 0 ≤ kv.toInt := by
            have q9 := b16.1
            by_cases e : kv.toInt = -1
            · exfalso
              exact c53 (Int32.toInt_inj.mp (by rw [e]; decide))
            · omega
          obtain ⟨k, hk7, rfl⟩ := isB_of (h := 7) (show isB 0 (7 : Nat) kv from ⟨hk0, b16.2⟩)
          refine z_iload_n (n := 65) C 3 dX9_friendly_64 rfl rfl ?_
          refine z_aload_n (n := 66) C 0 dX9_friendly_65 rfl rfl ?_
          refine z_getR (n := 69) (q := 57) C K fF_RX9_54 dX9_friendly_66 rfl rfl sh_0 (by decide) rfl ?_
          refine z_getI (n := 72) C K fF_RX9_277 dX9_friendly_69 rfl sh_57 (by decide) ?_
          rw [h5]
          refine z_icmp_ge (tgt := 87) (n := 75) C dX9_friendly_72 rfl rfl (fun c72 => ?_) (fun c72 => ?_)
          · rw [fa_le, nI_toInt (by omega), nI_toInt (by omega)] at c72
            refine z_bipush (n := 89) (v := (-9)) C dX9_friendly_87 rfl rfl ?_
            refine z_iret C E dX9_friendly_89 ?_
            have hx := hS I2 (by unfold frdR; rw [if_neg (fun q => q b3), if_neg (fun q => q b16)]) hf2
            unfold frdV at hx
            rw [if_neg (by omega)] at hx
            rw [if_neg c53, nI_clamp (show k < 2 ^ 31 by omega)] at hx
            rw [if_neg (by omega)] at hx
            exact hx
          · rw [fa_le, nI_toInt (by omega), nI_toInt (by omega)] at c72
            refine z_aload_n (n := 76) C 0 dX9_friendly_75 rfl rfl ?_
            refine z_getR (n := 79) (q := 57) C K fF_RX9_54 dX9_friendly_76 rfl rfl sh_0 (by decide) rfl ?_
            refine z_getR (n := 82) (q := 61) C K fF_RX9_280 dX9_friendly_79 rfl rfl sh_57 (by decide) rfl ?_
            refine z_iload_n (n := 83) C 3 dX9_friendly_82 rfl rfl ?_
            refine z_ialdN (n := 84) C K k dX9_friendly_83 rfl sh_61 (by decide) rfl (by omega) (by decide) ?_
            refine z_goto (n := 89) C dX9_friendly_84 rfl ?_
            rw [(hs hne).1 k (by rw [(hs hne).2]; omega), (hs hne).2]
            refine z_iret C E dX9_friendly_89 ?_
            have hx := hS I2 (by unfold frdR; rw [if_neg (fun q => q b3), if_neg (fun q => q b16)]) hf2
            unfold frdV at hx
            rw [if_neg (by omega)] at hx
            rw [if_neg c53, nI_clamp (show k < 2 ^ 31 by omega)] at hx
            rw [if_pos (by omega)] at hx
            exact hx
        · refine z_aload_n (n := 57) C 0 dX9_friendly_56 rfl rfl ?_
          refine z_getR (n := 60) (q := 57) C K fF_RX9_54 dX9_friendly_57 rfl rfl sh_0 (by decide) rfl ?_
          refine z_getI (n := 63) C K fF_RX9_274 dX9_friendly_60 rfl sh_57 (by decide) ?_
          refine z_iret C E dX9_friendly_63 ?_
          have hx := hS I2 (by unfold frdR; rw [if_neg (fun q => q b3), if_neg (fun q => q b16)]) hf2
          unfold frdV at hx
          rw [if_neg (by omega)] at hx
          rw [if_pos c53] at hx
          rw [h10]
          obtain ⟨b1, eb⟩ : ∃ b1, (rpB set T ag r).1 = b1 + 1 := ⟨(rpB set T ag r).1 - 1, by omega⟩
          rw [eb] at hx ⊢
          rw [nI_prd]
          exact hx
      · refine z_bipush (n := 50) (v := (-9)) C dX9_friendly_48 rfl rfl ?_
        refine z_iret C E dX9_friendly_50 ?_
        have hx := hS I2 (by unfold frdR; rw [if_neg (fun q => q b3), if_neg (fun q => q b16)]) hf2
        unfold frdV at hx
        rw [h10, fa_le, nI_m1 _ (by omega)] at c45
        simp only [Int32.reduceToInt] at c45
        rw [if_pos (by omega)] at hx
        exact hx
    · refine z_ifF_ne (n := 22) (tgt := 24) C (by decide) dX9_friendly_19 rfl rfl ?_
      refine z_iconst (n := 23) (v := (-1)) C dX9_friendly_22 rfl rfl ?_
      refine z_iret C E dX9_friendly_23 ?_
      exact hR _ (by unfold frdR; rw [if_neg (fun q => q b3), if_pos b16])
  · refine z_ifF_ne (n := 9) (tgt := 12) C (by decide) dX9_friendly_6 rfl rfl ?_
    refine z_bipush (n := 11) (v := (-2)) C dX9_friendly_9 rfl rfl ?_
    refine z_iret C E dX9_friendly_11 ?_
    exact hR _ (by unfold frdR; rw [if_pos b3])
