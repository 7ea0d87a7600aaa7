def zI : KI := fun _ => z0
def zJ : KJ := fun _ => z1
def zR : KR := fun _ => z2
def cap (Rf : KR) : Prop := ∀ p k, 43 ≤ k → Rf p k = none
theorem cap_z : cap zR := fun _ _ _ => rfl
theorem cap_R {Rf : KR} (h : cap Rf) {p k : Nat} {v : Option Nat} (hk : k < 43) : cap (upR Rf p k v) := fun q j hj => by rw [upR_k _ _ (by omega)]; exact h q j hj
theorem cap_G {Rf : KR} (h : cap Rf) {N : Nat} : cap (upG Rf N) := fun q j hj => by
  unfold upG; split
  · exact if_neg (by omega)
  · exact h q j hj
def eI : KI := (upI (upI (upI (upI (upI (upI (upI (upI (upI zI 57 6 (-9)) 57 10 (-9)) 0 8 6) 63 5 (-9)) 86 0 (-9)) 86 1 (-9)) 86 2 (-9)) 86 3 (-9)) 85 32 6)
def eJ : KJ := (upJ zJ 54 3 1)
def eR : KR := (upR (upR (upR (upR (upR (upR (upR (upR (upR (upR (upR (upR (upR (upR (upR (upR (upR (upR (upR (upR (upR (upR (upR (upR (upR (upR (upR (upR (upR (upR (upR (upR (upR (upR (upR (upR (upR (upR (upR (upR (upR (upR (upR (upR (upR (upR (upR (upR (upR (upR (upR (upR (upR (upR (upR (upR (upR (upR (upR (upR (upR (upR (upR (upG (upR (upG (upR (upR (upR (upR (upR (upR (upR (upG (upR (upG (upR (upR (upR (upR (upR (upR (upR (upR zR 0 0 (some 1)) 2 0 (some 3)) 0 1 (some 2)) 4 3 (some 5)) 4 4 (some 6)) 4 5 (some 7)) 4 6 (some 8)) 4 7 (some 9)) 10) 4 8 (some 10)) 18) 4 9 (some 18)) 0 2 (some 4)) 26 3 (some 27)) 26 4 (some 28)) 26 5 (some 29)) 26 6 (some 30)) 26 7 (some 31)) 32) 26 8 (some 32)) 40) 26 9 (some 40)) 0 3 (some 26)) 0 4 (some 48)) 50 1 (some 51)) 50 2 (some 52)) 50 3 (some 53)) 49 0 (some 50)) 54 0 (some 55)) 49 1 (some 54)) 49 2 (some 56)) 0 6 (some 49)) 57 0 (some 58)) 57 1 (some 59)) 57 2 (some 60)) 57 3 (some 61)) 0 7 (some 57)) 0 9 (some 62)) 63 0 (some 64)) 63 1 (some 65)) 63 2 (some 66)) 0 11 (some 63)) 67 3 (some 68)) 1 0 (some 67)) 69 3 (some 70)) 1 1 (some 69)) 71 3 (some 72)) 1 2 (some 71)) 73 3 (some 74)) 1 3 (some 73)) 48 0 (some 75)) 48 1 (some 76)) 48 2 (some 77)) 48 3 (some 78)) 48 4 (some 79)) 48 5 (some 80)) 48 6 (some 81)) 48 7 (some 82)) 48 8 (some 83)) 48 9 (some 84)) 85 2 (some 86)) 85 3 (some 87)) 85 4 (some 88)) 85 8 (some 89)) 85 9 (some 90)) 85 10 (some 91)) 85 11 (some 92)) 85 12 (some 93)) 85 13 (some 94)) 85 17 (some 95)) 85 20 (some 96)) 85 21 (some 97)) 85 22 (some 98)) 85 23 (some 99)) 85 24 (some 100)) 85 25 (some 101)) 85 26 (some 102)) 85 30 (some 103)) 85 31 (some 104)) 85 33 (some 105)) 85 34 (some 106)) 85 38 (some 107)) 85 39 (some 108)) 85 40 (some 109))
theorem eR_cap : cap eR := (cap_R (cap_R (cap_R (cap_R (cap_R (cap_R (cap_R (cap_R (cap_R (cap_R (cap_R (cap_R (cap_R (cap_R (cap_R (cap_R (cap_R (cap_R (cap_R (cap_R (cap_R (cap_R (cap_R (cap_R (cap_R (cap_R (cap_R (cap_R (cap_R (cap_R (cap_R (cap_R (cap_R (cap_R (cap_R (cap_R (cap_R (cap_R (cap_R (cap_R (cap_R (cap_R (cap_R (cap_R (cap_R (cap_R (cap_R (cap_R (cap_R (cap_R (cap_R (cap_R (cap_R (cap_R (cap_R (cap_R (cap_R (cap_R (cap_R (cap_R (cap_R (cap_R (cap_R (cap_G (cap_R (cap_G (cap_R (cap_R (cap_R (cap_R (cap_R (cap_R (cap_R (cap_G (cap_R (cap_G (cap_R (cap_R (cap_R (cap_R (cap_R (cap_R (cap_R (cap_R cap_z (by decide)) (by decide)) (by decide)) (by decide)) (by decide)) (by decide)) (by decide)) (by decide))) (by decide))) (by decide)) (by decide)) (by decide)) (by decide)) (by decide)) (by decide)) (by decide))) (by decide))) (by decide)) (by decide)) (by decide)) (by decide)) (by decide)) (by decide)) (by decide)) (by decide)) (by decide)) (by decide)) (by decide)) (by decide)) (by decide)) (by decide)) (by decide)) (by decide)) (by decide)) (by decide)) (by decide)) (by decide)) (by decide)) (by decide)) (by decide)) (by decide)) (by decide)) (by decide)) (by decide)) (by decide)) (by decide)) (by decide)) (by decide)) (by decide)) (by decide)) (by decide)) (by decide)) (by decide)) (by decide)) (by decide)) (by decide)) (by decide)) (by decide)) (by decide)) (by decide)) (by decide)) (by decide)) (by decide)) (by decide)) (by decide)) (by decide)) (by decide)) (by decide)) (by decide)) (by decide)) (by decide)) (by decide)) (by decide)) (by decide)) (by decide)) (by decide)) (by decide)) (by decide)) (by decide)) (by decide))
set_option maxRecDepth 100000 in
theorem eR_low : (List.range 110).all (fun p => (List.range 43).all (fun k => decide (eR p k = rf 4 p k))) = true := by decide +kernel
set_option maxRecDepth 100000 in
theorem rf_len : (List.range 110).all (fun p => decide (((refsL 4).getD p []).length ≤ 43)) = true := by decide +kernel
theorem eR_rf {p : Nat} (hp : p < 110) : eR p = rf 4 p := by
  funext k
  by_cases hk : k < 43
  · exact of_decide_eq_true (List.all_eq_true.mp (List.all_eq_true.mp eR_low p (List.mem_range.mpr hp)) k (List.mem_range.mpr hk))
  · rw [eR_cap p k (by omega)]
    have h := of_decide_eq_true (List.all_eq_true.mp rf_len p (List.mem_range.mpr hp))
    unfold rf
    rw [List.getD_eq_getElem?_getD, List.getElem?_eq_none (by omega)]
    rfl
theorem eW (cy : Nat → ClassId) (ad : Nat → Nat) : wsO cy ad 110 eI eJ eR = wsO cy ad 110 eI eJ (rf 4) := by
  unfold wsO
  apply List.map_congr_left
  intro p hp
  have e := eR_rf (List.mem_range.mp hp)
  unfold cellE flds fldv
  rw [e]
theorem eI_z {q : Nat} (h0 : q ≠ 0) (h57 : q ≠ 57) (h63 : q ≠ 63) (h85 : q ≠ 85) (h86 : q ≠ 86) : eI q = z0 := by
  unfold eI
  rw [upI_row _ _ h85]
  rw [upI_row _ _ h86]
  rw [upI_row _ _ h86]
  rw [upI_row _ _ h86]
  rw [upI_row _ _ h86]
  rw [upI_row _ _ h63]
  rw [upI_row _ _ h0]
  rw [upI_row _ _ h57]
  rw [upI_row _ _ h57]
  rfl
theorem inv_0 : Inv 4 eI eJ := by
  refine ⟨fun _ => false, fun _ => 0, fun _ => 0, fun _ _ => 0, 0, 0, 0, fun _ _ => 0, fun _ _ => 0, 0, fun _ => 0, fun _ => 0, fun _ => 0, fun _ => 0, fun _ _ => 0, 6, 0, fun _ => 0, ⟨?_, ?_, ?_, okKd_0, ?_⟩, ⟨Or.inl rfl, ?_, ?_, ?_, cKd_0 (by decide), ?_, ?_⟩, ⟨?_, ?_, ?_, mKd_0 (by decide), ?_⟩, by decide, by decide⟩
  · exact fun k hk => ⟨(by decide : 0 < 3), (by decide : 0 ≤ 100)⟩
  · exact ⟨by decide, by decide, fun h => absurd h (by decide), fun k hk => absurd hk (Nat.not_lt_zero _)⟩
  · exact ⟨fun a h => absurd h (Nat.not_lt_zero _), fun a b h => absurd h (Nat.not_lt_zero _), fun k a b h => absurd h (Nat.not_lt_zero _), fun a b h => absurd h (Nat.not_lt_zero _)⟩
  · exact ⟨by decide, by decide, by decide, fun x hx => absurd hx (Nat.not_lt_zero _)⟩
  · intro k hk
    rw [eI_z (by omega) (by omega) (by omega) (by omega) (by omega), eI_z (by omega) (by omega) (by omega) (by omega) (by omega)]
    exact ⟨rfl, rfl, rfl, fun _ _ => rfl⟩
  · exact ⟨by decide, by decide, by decide, fun k hk => absurd hk (Nat.not_lt_zero _)⟩
  · exact ⟨fun a b h => absurd h (Nat.not_lt_zero _), fun a b h => absurd h (Nat.not_lt_zero _)⟩
  · exact ⟨by decide, by decide, fun x hx => absurd hx (Nat.not_lt_zero _)⟩
  · exact ⟨0, by decide, by decide, fun k h1 h2 => by unfold eJ; rw [upJ_p _ _ (by decide)]; rfl⟩
  · intro k hk
    rw [eI_z (q := 87) (by decide) (by decide) (by decide) (by decide) (by decide), eI_z (q := 88) (by decide) (by decide) (by decide) (by decide) (by decide)]
    refine ⟨?_, rfl, fun _ _ => rfl⟩
    match k, hk with
    | 0, _ => decide
    | 1, _ => decide
    | 2, _ => decide
    | 3, _ => decide
  · exact ⟨by decide, by decide, by decide, fun k hk => absurd hk (Nat.not_lt_zero _)⟩
  · exact fun a b h => absurd h (Nat.not_lt_zero _)
  · exact ⟨by decide, by decide, fun x hx => absurd hx (Nat.not_lt_zero _)⟩
section START
variable {s : State} {A : Array Value}
theorem st_RA {cA comp : ClassId} {kA : Class} {ty : FieldType} (h2 : s.vm.classes[cA]? = some kA) (h3 : kA.kind = .array comp ty) : ArrOfT s cA ty := fun n z => ⟨fun k h => (by cases h), kA, h2, comp, h3⟩
theorem st_OV (hts : ∀ w ∈ lw_tbl, w.before A s = true) : OV s := ⟨hts (.arrayOver (.object RX6)) (List.mem_of_getElem? (i := 106) (by decide +kernel)), hts (.arrayOver (.object RX0)) (List.mem_of_getElem? (i := 178) (by decide +kernel)), hts (.arrayOver (.array .int)) (List.mem_of_getElem? (i := 131) (by decide +kernel))⟩
theorem st_NW (hts : ∀ w ∈ lw_tbl, w.before A s = true) : NW s := ⟨fun q hq => va_Nw.of rfl (hts _ (nestF_in q hq)), fun q hq => va_Nw.of rfl (hts _ (nestM_in q hq))⟩
theorem gW_tbl {w : Cond} (h : w ∈ gW) : w ∈ lw_tbl := (List.mem_filter.mp h).1
theorem st_cy (hts : ∀ w ∈ lw_tbl, w.before A s = true) : ∃ cy : Nat → ClassId, ∀ (k : Nat) (q : ClassId × FieldType), (tysO cy)[k]? = some q → ArrOfT s q.1 q.2 ∧ va_RA s q.1 q.2 := by
  obtain ⟨c0, k0, m0, a0, b0, d0⟩ := Cond.arrayClass_spec (hts _ (gW_tbl kR_int))
  obtain ⟨c1, k1, m1, a1, b1, d1⟩ := Cond.arrayClass_spec (hts _ (gW_tbl kR_long))
  obtain ⟨o6, o0, oA⟩ := st_OV hts
  obtain ⟨m2, c2, k2, e2, -, b2, d2, a2⟩ := Cond.arrayOver_spec o0
  obtain ⟨m3, c3, k3, e3, -, b3, d3, a3⟩ := Cond.arrayOver_spec o6
  obtain ⟨m4, c4, k4, e4, -, b4, d4, a4⟩ := Jvm.Stand.arrayOver_specB oA
  refine ⟨fun i => if i = 0 then c0 else if i = 1 then c1 else if i = 2 then c2 else if i = 3 then c3 else c4, fun k q hq => ?_⟩
  match k, hq with
  | 0, hq => cases hq; exact ⟨st_RA b0 d0, a0⟩
  | 1, hq => cases hq; exact ⟨st_RA b1 d1, a1⟩
  | 2, hq => cases hq; exact ⟨st_RA b2 d2, k2, m2, b2, d2, e2, a2⟩
  | 3, hq => cases hq; exact ⟨st_RA b3 d3, k3, m3, b3, d3, e3, a3⟩
  | 4, hq => cases hq; exact ⟨st_RA b4 d4, a4⟩
  | k + 5, hq => simp [tysO] at hq
theorem st_D (hts : ∀ w ∈ lw_tbl, w.before A s = true) : ∃ D : va_G, ∀ (c : Nat) (q : vw_C), vwCl[c]? = some q → u_Kn s q.1 q.2.1 q.2.2 (D.1 c) (D.2 c) := by
  have h : ∀ c : Nat, ∃ (cC : ClassId) (iS : Nat → Nat), ∀ q : vw_C, vwCl[c]? = some q → u_Kn s q.1 q.2.1 q.2.2 cC iS := by
    have g : ∀ w ∈ gW, w.before A s = true := fun w hw => hts w (gW_tbl hw)
    intro c
    match c with
    | 0 => obtain ⟨x, y, k⟩ := u_known (C := RX0) (T := TX0) (N := 6) (n := 6) g inX0 (g _ kA_RX0); exact ⟨x, y, fun q hq => by cases hq; exact k⟩
    | 1 => obtain ⟨x, y, k⟩ := u_known (C := RX1) (T := TX1) (N := 4) (n := 4) g inX1 (g _ kA_RX1); exact ⟨x, y, fun q hq => by cases hq; exact k⟩
    | 2 => obtain ⟨x, y, k⟩ := u_known (C := RX2) (T := TX2) (N := 3) (n := 3) g inX2 (g _ kA_RX2); exact ⟨x, y, fun q hq => by cases hq; exact k⟩
    | 3 => obtain ⟨x, y, k⟩ := u_known (C := RX3) (T := TX3) (N := 4) (n := 4) g inX3 (g _ kA_RX3); exact ⟨x, y, fun q hq => by cases hq; exact k⟩
    | 4 => obtain ⟨x, y, k⟩ := u_known (C := RX4) (T := TX4) (N := 3) (n := 3) g inX4 (g _ kA_RX4); exact ⟨x, y, fun q hq => by cases hq; exact k⟩
    | 5 => obtain ⟨x, y, k⟩ := u_known (C := RX5) (T := TX5) (N := 11) (n := 11) g inX5 (g _ kA_RX5); exact ⟨x, y, fun q hq => by cases hq; exact k⟩
    | 6 => obtain ⟨x, y, k⟩ := u_known (C := RX6) (T := TX6) (N := 4) (n := 4) g inX6 (g _ kA_RX6); exact ⟨x, y, fun q hq => by cases hq; exact k⟩
    | 7 => obtain ⟨x, y, k⟩ := u_known (C := RX7) (T := TX7) (N := 10) (n := 10) g inX7 (g _ kA_RX7); exact ⟨x, y, fun q hq => by cases hq; exact k⟩
    | 8 => obtain ⟨x, y, k⟩ := u_known (C := RX8) (T := TX8) (N := 6) (n := 6) g inX8 (g _ kA_RX8); exact ⟨x, y, fun q hq => by cases hq; exact k⟩
    | 9 => obtain ⟨x, y, k⟩ := u_known (C := RX9) (T := TX9) (N := 17) (n := 17) g inX9 (g _ kA_RX9); exact ⟨x, y, fun q hq => by cases hq; exact k⟩
    | 10 => obtain ⟨x, y, k⟩ := u_known (C := RX10) (T := TX10) (N := 42) (n := 42) g inX10 (g _ kA_RX10); exact ⟨x, y, fun q hq => by cases hq; exact k⟩
    | c + 11 => exact ⟨0, fun _ => 0, fun q hq => by simp [vwCl] at hq⟩
  exact ⟨(fun c => Classical.choose (h c), fun c => Classical.choose (Classical.choose_spec (h c))), fun c q hq => Classical.choose_spec (Classical.choose_spec (h c)) q hq⟩
end START
set_option maxHeartbeats 4000000 in
set_option maxRecDepth 100000 in
theorem st_walk {X : KX} (C : Cx X RL cL_law 2000) (K : Kx X) (G : Gx X) (O : OV (xs X)) (hnL : xnL X = 4) (hr : 600000 = (xRm X).cells ∧ 7302250 = (xRm X).slots) {b : Nat} (kk : Y X 110 110 9028 eI eJ eR 18 [(0, .ref b), (1, .ref (xad X 0)), (2, .ref (xad X 85)), (3, .int (nI 0))] []) : Y X 0 0 0 zI zJ zR 0 [(0, .ref b)] [] := by
  have hz : Zr zI zJ zR 0 110 := fun _ _ _ => ⟨rfl, rfl, rfl⟩
  refine b_new (n := 3) (N1 := 1) (k1 := 1) (n1 := 17) C K G (fun _ => hz.sub (by decide) (by decide)) tyX9 rfl inX9 tyX9_ok kL_RL_7 kA_RX9 kN_RX9 zd_X9 dL_law_0 rfl rfl (by decide) rfl rfl rfl (by rw [← hr.1]; decide) (by rw [← hr.2]; decide) ?_
  refine y_dup (n := 4) C dL_law_3 rfl rfl ?_
  refine b_call (n := 7) (k1 := 85) (n1 := 1219) (d' := 3) (mc := 84) (ms := 1202) (N1 := 85) C K G O dL_law_4 rfl yk_X9_init rfl kI_yX9_init kM_RL_9 (by decide) rfl rfl rfl (by rw [← hr.1]; decide) (by rw [← hr.2]; decide) ?_
  refine c_X9_init_0 G (hz.sub (by decide) (by decide)) ?_
  refine y_astore_n (n := 8) (L' := [(1, _), (0, _)]) C dL_law_7 rfl (by rw [hnL]; decide) rfl ?_
  have hz9 : Zr (upI (upI (upI (upI zI 57 6 (-9)) 57 10 (-9)) 0 8 6) 63 5 (-9)) (upJ zJ 54 3 1) (upR (upR (upR (upR (upR (upR (upR (upR (upR (upR (upR (upR (upR (upR (upR (upR (upR (upR (upR (upR (upR (upR (upR (upR (upR (upR (upR (upR (upR (upR (upR (upR (upR (upR (upR (upR (upR (upR (upR (upG (upR (upG (upR (upR (upR (upR (upR (upR (upR (upG (upR (upG (upR (upR (upR (upR (upR (upR (upR (upR zR 0 0 (some 1)) 2 0 (some 3)) 0 1 (some 2)) 4 3 (some 5)) 4 4 (some 6)) 4 5 (some 7)) 4 6 (some 8)) 4 7 (some 9)) 10) 4 8 (some 10)) 18) 4 9 (some 18)) 0 2 (some 4)) 26 3 (some 27)) 26 4 (some 28)) 26 5 (some 29)) 26 6 (some 30)) 26 7 (some 31)) 32) 26 8 (some 32)) 40) 26 9 (some 40)) 0 3 (some 26)) 0 4 (some 48)) 50 1 (some 51)) 50 2 (some 52)) 50 3 (some 53)) 49 0 (some 50)) 54 0 (some 55)) 49 1 (some 54)) 49 2 (some 56)) 0 6 (some 49)) 57 0 (some 58)) 57 1 (some 59)) 57 2 (some 60)) 57 3 (some 61)) 0 7 (some 57)) 0 9 (some 62)) 63 0 (some 64)) 63 1 (some 65)) 63 2 (some 66)) 0 11 (some 63)) 67 3 (some 68)) 1 0 (some 67)) 69 3 (some 70)) 1 1 (some 69)) 71 3 (some 72)) 1 2 (some 71)) 73 3 (some 74)) 1 3 (some 73)) 48 0 (some 75)) 48 1 (some 76)) 48 2 (some 77)) 48 3 (some 78)) 48 4 (some 79)) 48 5 (some 80)) 48 6 (some 81)) 48 7 (some 82)) 48 8 (some 83)) 48 9 (some 84)) 85 110 := fun q q1 q2 => ⟨by rw [upI_row _ _ (show q ≠ 63 by omega), upI_row _ _ (show q ≠ 0 by omega), upI_row _ _ (show q ≠ 57 by omega), upI_row _ _ (show q ≠ 57 by omega)]; rfl, by rw [upJ_row _ _ (show q ≠ 54 by omega)]; rfl, ((Zr.R (p := 48) (Zr.R (p := 48) (Zr.R (p := 48) (Zr.R (p := 48) (Zr.R (p := 48) (Zr.R (p := 48) (Zr.R (p := 48) (Zr.R (p := 48) (Zr.R (p := 48) (Zr.R (p := 48) (Zr.R (p := 1) (Zr.R (p := 73) (Zr.R (p := 1) (Zr.R (p := 71) (Zr.R (p := 1) (Zr.R (p := 69) (Zr.R (p := 1) (Zr.R (p := 67) (Zr.R (p := 0) (Zr.R (p := 63) (Zr.R (p := 63) (Zr.R (p := 63) (Zr.R (p := 0) (Zr.R (p := 0) (Zr.R (p := 57) (Zr.R (p := 57) (Zr.R (p := 57) (Zr.R (p := 57) (Zr.R (p := 0) (Zr.R (p := 49) (Zr.R (p := 49) (Zr.R (p := 54) (Zr.R (p := 49) (Zr.R (p := 50) (Zr.R (p := 50) (Zr.R (p := 50) (Zr.R (p := 0) (Zr.R (p := 0) (Zr.R (p := 26) (Zr.G (p := 40) (Zr.R (p := 26) (Zr.G (p := 32) (Zr.R (p := 26) (Zr.R (p := 26) (Zr.R (p := 26) (Zr.R (p := 26) (Zr.R (p := 26) (Zr.R (p := 0) (Zr.R (p := 4) (Zr.G (p := 18) (Zr.R (p := 4) (Zr.G (p := 10) (Zr.R (p := 4) (Zr.R (p := 4) (Zr.R (p := 4) (Zr.R (p := 4) (Zr.R (p := 4) (Zr.R (p := 0) (Zr.R (p := 2) (Zr.R (p := 0) (show Zr zI zJ zR 85 110 from hz.sub (by decide) (by decide)) (by decide)) (by decide)) (by decide)) (by decide)) (by decide)) (by decide)) (by decide)) (by decide)) (by decide)) (by decide)) (by decide)) (by decide)) (by decide)) (by decide)) (by decide)) (by decide)) (by decide)) (by decide)) (by decide)) (by decide)) (by decide)) (by decide)) (by decide)) (by decide)) (by decide)) (by decide)) (by decide)) (by decide)) (by decide)) (by decide)) (by decide)) (by decide)) (by decide)) (by decide)) (by decide)) (by decide)) (by decide)) (by decide)) (by decide)) (by decide)) (by decide)) (by decide)) (by decide)) (by decide)) (by decide)) (by decide)) (by decide)) (by decide)) (by decide)) (by decide)) (by decide)) (by decide)) (by decide)) (by decide)) (by decide)) (by decide)) (by decide)) (by decide)) (by decide)) (by decide)) q q1 q2).2.2⟩
  refine b_new (n := 11) (N1 := 86) (k1 := 86) (n1 := 1261) C K G (fun _ => hz9.sub (by decide) (by decide)) tyX10 rfl inX10 tyX10_ok kL_RL_10 kA_RX10 kN_RX10 zd_X10 dL_law_8 rfl rfl (by decide) rfl rfl rfl (by rw [← hr.1]; decide) (by rw [← hr.2]; decide) ?_
  refine y_dup (n := 12) C dL_law_11 rfl rfl ?_
  refine b_call (n := 15) (k1 := 110) (n1 := 9028) (d' := 1) (mc := 24) (ms := 7767) (N1 := 110) C K G O dL_law_12 rfl yk_X10_init rfl kI_yX10_init kM_RL_12 (by decide) rfl rfl rfl (by rw [← hr.1]; decide) (by rw [← hr.2]; decide) ?_
  refine c_X10_init_85 G hz9 ?_
  refine y_astore_n (n := 16) (L' := [(2, _), (1, _), (0, _)]) C dL_law_15 rfl (by rw [hnL]; decide) rfl ?_
  refine y_iconst (n := 17) (v := 0) C dL_law_16 rfl rfl ?_
  refine y_istore_n (n := 18) (L' := [(3, _), (2, _), (1, _), (0, _)]) C dL_law_17 rfl (by rw [hnL]; decide) rfl ?_
  refine y_sub (L' := [(0, _), (1, _), (2, _), (3, _)]) [3, 2, 1, 0] rfl ?_
  exact kk
