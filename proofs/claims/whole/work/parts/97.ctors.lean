def fz (ci : Nat) : List Value := (List.range (fk ci).length).map (fun k => if (fk ci).getD k 0 = 0 then .int 0 else if (fk ci).getD k 0 = 1 then .long 0 else .null)
def z0 : Nat → Int32 := fun _ => 0
def z1 : Nat → Int64 := fun _ => 0
def z2 : Nat → Option Nat := fun _ => none
/-- places a .. b are as they are born -/
def Zr (I : KI) (J : KJ) (Rf : KR) (a b : Nat) : Prop := ∀ q, a ≤ q → q < b → I q = z0 ∧ J q = z1 ∧ Rf q = z2
theorem Zr.sub {I : KI} {J : KJ} {Rf : KR} {a b a2 b2 : Nat} (h : Zr I J Rf a b) (h1 : a ≤ a2) (h2 : b2 ≤ b) : Zr I J Rf a2 b2 := fun q q1 q2 => h q (Nat.le_trans h1 q1) (Nat.lt_of_lt_of_le q2 h2)
theorem Zr.I {I : KI} {J : KJ} {Rf : KR} {a b p k : Nat} {v : Int32} (h : Zr I J Rf a b) (hp : p < a) : Zr (upI I p k v) J Rf a b := fun q q1 q2 => by rw [upI_row _ _ (by omega)]; exact h q q1 q2
theorem Zr.J {I : KI} {J : KJ} {Rf : KR} {a b p k : Nat} {v : Int64} (h : Zr I J Rf a b) (hp : p < a) : Zr I (upJ J p k v) Rf a b := fun q q1 q2 => by rw [upJ_row _ _ (by omega)]; exact h q q1 q2
theorem Zr.R {I : KI} {J : KJ} {Rf : KR} {a b p k : Nat} {v : Option Nat} (h : Zr I J Rf a b) (hp : p < a) : Zr I J (upR Rf p k v) a b := fun q q1 q2 => by
  have e : upR Rf p k v q = Rf q := funext fun j => upR_p Rf v (by omega)
  rw [e]; exact h q q1 q2
def upG (Rf : KR) (N : Nat) : KR := fun q => if q = N then (fun k => if k < 7 then some (N + 1 + k) else none) else Rf q
theorem Zr.G {I : KI} {J : KJ} {Rf : KR} {a b p : Nat} (h : Zr I J Rf a b) (hp : p < a) : Zr I J (upG Rf p) a b := fun q q1 q2 => by
  have e : upG Rf p q = Rf q := if_neg (by omega)
  rw [e]; exact h q q1 q2
theorem flds_z {ad : Nat → Nat} {I : KI} {J : KJ} {Rf : KR} {N ci : Nat} (hI : I N = z0) (hJ : J N = z1) (hR : Rf N = z2) : flds ad I J Rf N ci = fz ci := by
  unfold flds fz fldv; rw [hI, hJ, hR]; rfl
section BORN
variable {X : KX} {own : String} {cc : ByteArray} {d N N1 k0 n0 k1 n1 : Nat} {I : KI} {J : KJ} {Rf : KR} {pc n : Nat} {L : List (Nat × Value)} {S : List Value}
theorem b_new (C : Cx X own cc d) (K : Kx X) (G : Gx X) (hr : N < N1 → Zr I J Rf N N1) {idx ci nn : Nat} {cn : String} {T : u_T} {M : Nat} (ty0 : Nat → FieldType) (hc : vwCl[ci]? = some (cn, T, M)) (hin : ∀ w ∈ u_ws cn T M, w ∈ gW) (hty : ∀ k, k < M → parseFieldDescriptor (T k).2.2.1 = some (ty0 k)) (hcl : Cond.classLink own idx cn ∈ gW) (hinst : Cond.instantiable cn M ∈ gW) (hini : Cond.initialized cn ∈ gW) (hdef : ∀ j, j < M → defaultValue (ty0 j) = vp_V (fz ci) j) (hd : decode cc pc = .ok (.new idx, 3)) (hn : pc + 3 = n) (hs : sh N = (ci, nn)) (hc11 : ci < 11) (e1 : N + 1 = N1) (e2 : k0 + 1 = k1) (e3 : n0 + M = n1) (hkc : k1 ≤ (xRm X).cells) (hks : n1 ≤ (xRm X).slots) (kk : Y X N1 k1 n1 I J Rf n L (.ref (xad X N) :: S)) : Y X N k0 n0 I J Rf pc L S := by
  subst e1; subst e2; subst e3
  obtain ⟨h1, h2, h3⟩ := hr (by omega) N (by omega) (by omega)
  exact y_new C K G ty0 hc hin hty hcl hinst hini hd hn hs hc11 (fun j hj => by rw [flds_z h1 h2 h3]; exact hdef j hj) hkc hks kk
theorem b_arrI (C : Cx X own cc d) (K : Kx X) (G : Gx X) (hr : N < N1 → Zr I J Rf N N1) {nn : Nat} {c : Int32} (hd : decode cc pc = .ok (.newarray .int, 2)) (hn : pc + 2 = n) (hs : sh N = (11, nn)) (hc : c = nI nn) (hb : nn ≤ 10000) (e1 : N + 1 = N1) (e2 : k0 + 1 = k1) (e3 : n0 + nn = n1) (hkc : k1 ≤ (xRm X).cells) (hks : n1 ≤ (xRm X).slots) (kk : Y X N1 k1 n1 I J Rf n L (.ref (xad X N) :: S)) : Y X N k0 n0 I J Rf pc L (.int c :: S) := by
  subst e1; subst e2; subst e3
  obtain ⟨h1, h2, h3⟩ := hr (by omega) N (by omega) (by omega)
  exact y_arr (at0 := .int) (ty := .int) (t0 := 0) (a0 := (nn, .inl z0)) C K G rfl kR_int hd hn (fun _ => rfl) (fun _ _ h => h) hc ⟨by show nn * 4 ≤ _; omega, by omega⟩ (by rw [cell_I hs, h1]) (fun cA => by rw [vp_cell_i]; rfl) hkc hks kk
theorem b_arrJ (C : Cx X own cc d) (K : Kx X) (G : Gx X) (hr : N < N1 → Zr I J Rf N N1) {nn : Nat} {c : Int32} (hd : decode cc pc = .ok (.newarray .long, 2)) (hn : pc + 2 = n) (hs : sh N = (12, nn)) (hc : c = nI nn) (hb : nn ≤ 10000) (e1 : N + 1 = N1) (e2 : k0 + 1 = k1) (e3 : n0 + nn = n1) (hkc : k1 ≤ (xRm X).cells) (hks : n1 ≤ (xRm X).slots) (kk : Y X N1 k1 n1 I J Rf n L (.ref (xad X N) :: S)) : Y X N k0 n0 I J Rf pc L (.int c :: S) := by
  subst e1; subst e2; subst e3
  obtain ⟨h1, h2, h3⟩ := hr (by omega) N (by omega) (by omega)
  exact y_arr (at0 := .long) (ty := .long) (t0 := 1) (a0 := (nn, .inr (.inl z1))) C K G rfl kR_long hd hn (fun _ => rfl) (fun _ _ h => h) hc ⟨by show nn * 8 ≤ _; omega, by omega⟩ (by rw [cell_J hs, h2]) (fun cA => by rw [vp_cell_l]; rfl) hkc hks kk
theorem b_newq (C : Cx X own cc d) (K : Kx X) (G : Gx X) (hr : N < N1 → Zr I J Rf N N1) {idx ci nn : Nat} {cn : String} {c : Int32} (hcl : Cond.classLink own idx cn ∈ gW) (hov : ov (.object cn) (xs X)) (hd : decode cc pc = .ok (.anewarray idx, 3)) (hn : pc + 3 = n) (hs : sh N = (ci + 13, nn)) (ht0 : ∀ cy : Nat → ClassId, (tysO cy)[ci + 2]? = some (cy (ci + 2), .object cn)) (hc : c = nI nn) (hb : nn ≤ 10000) (e1 : N + 1 = N1) (e2 : k0 + 1 = k1) (e3 : n0 + nn = n1) (hkc : k1 ≤ (xRm X).cells) (hks : n1 ≤ (xRm X).slots) (kk : Y X N1 k1 n1 I J Rf n L (.ref (xad X N) :: S)) : Y X N k0 n0 I J Rf pc L (.int c :: S) := by
  subst e1; subst e2; subst e3
  obtain ⟨h1, h2, h3⟩ := hr (by omega) N (by omega) (by omega)
  exact y_newq C K G hcl hov hd hn hs ht0 hc (by omega) h3 hkc hks kk
theorem b_mna (C : Cx X own cc d) (K : Kx X) (G : Gx X) (O : OV (xs X)) (hr : N < N1 → Zr I J Rf N N1) {idx : Nat} (hcl : Cond.classLink own idx "[[I" ∈ gW) (hd : decode cc pc = .ok (.multianewarray idx 2, 4)) (hn : pc + 4 = n) (hs : sh N = (15, 7)) (hsr : ∀ i, i < 7 → sh (N + 1 + i) = (11, 7)) (e1 : N + 8 = N1) (e2 : k0 + 8 = k1) (e3 : n0 + 56 = n1) (hkc : k1 ≤ (xRm X).cells) (hks : n1 ≤ (xRm X).slots) (kk : Y X N1 k1 n1 I J (upG Rf N) n L (.ref (xad X N) :: S)) : Y X N k0 n0 I J Rf pc L (.int 7 :: .int 7 :: S) := by
  subst e1; subst e2; subst e3
  have hr := hr (by omega)
  exact y_mna C K G hcl O.2.2 kR_int hd hn hs hsr (fun i hi => (hr (N + 1 + i) (by omega) (by omega)).1) (fun q hq => if_neg hq) (if_pos rfl) hkc hks kk
theorem b_call (C : Cx X own cc d) (K : Kx X) (G : Gx X) (O : OV (xs X)) {d' mc ms nl p idx : Nat} {y : MethodName} {b : ByteArray} (hd : decode cc pc = .ok (.invokespecial idx, 3)) (hn : pc + 3 = n) (hY : Yk y b nl none 0) (hyn : y.name = "<init>") (hI : Cond.instanceMethod y ∈ gW) (hm : Cond.methodLink own idx y ∈ gW) (hdd : d' < d) (hw : ((S.map fun (v : Value) => v.category).sum).ble 8 = true) (e2 : k0 + mc = k1) (e3 : n0 + ms = n1) (hkc : k1 ≤ (xRm X).cells) (hks : n1 ≤ (xRm X).slots) (M : Mc d' mc ms y (wm y b nl none) p N N1 (xad X) I J Rf (fun I' J' R' => Y X N1 k1 n1 I' J' R' n L S)) : Y X N k0 n0 I J Rf pc L (.ref (xad X p) :: S) := by
  subst e2; subst e3
  exact y_call C K G O hd hn hY hyn hI hm hdd hw hkc hks M
end BORN
theorem zd_X0 : ∀ j, j < 6 → defaultValue (tyX0 j) = vp_V (fz 0) j := by decide +kernel
theorem zd_X1 : ∀ j, j < 4 → defaultValue (tyX1 j) = vp_V (fz 1) j := by decide +kernel
theorem zd_X2 : ∀ j, j < 3 → defaultValue (tyX2 j) = vp_V (fz 2) j := by decide +kernel
theorem zd_X3 : ∀ j, j < 4 → defaultValue (tyX3 j) = vp_V (fz 3) j := by decide +kernel
theorem zd_X4 : ∀ j, j < 3 → defaultValue (tyX4 j) = vp_V (fz 4) j := by decide +kernel
theorem zd_X5 : ∀ j, j < 11 → defaultValue (tyX5 j) = vp_V (fz 5) j := by decide +kernel
theorem zd_X6 : ∀ j, j < 4 → defaultValue (tyX6 j) = vp_V (fz 6) j := by decide +kernel
theorem zd_X7 : ∀ j, j < 10 → defaultValue (tyX7 j) = vp_V (fz 7) j := by decide +kernel
theorem zd_X8 : ∀ j, j < 6 → defaultValue (tyX8 j) = vp_V (fz 8) j := by decide +kernel
theorem zd_X9 : ∀ j, j < 17 → defaultValue (tyX9 j) = vp_V (fz 9) j := by decide +kernel
theorem zd_X10 : ∀ j, j < 42 → defaultValue (tyX10 j) = vp_V (fz 10) j := by decide +kernel
set_option maxHeartbeats 4000000 in
set_option maxRecDepth 100000 in
theorem c_X6_init_67 {ad : Nat → Nat} (hG : ∀ q, ad (q + 1) = ad q + 1) {I : KI} {J : KJ} {Rf : KR} (hz : Zr I J Rf 67 69) {Q : KI → KJ → KR → Prop} (hQ : Q I J (upR Rf 67 3 (some 68))) : Mc 1 1 100 yX6_init (wm yX6_init cX6_init 1 none) 67 68 69 ad I J Rf Q := by
  refine mc_of (own := RX6) yk_X6_init rfl rfl (by decide) hG (fun X hA hnL C K hin O hr E => ?_)
  have G : Gx X := by unfold Gx; rw [hA]; exact hG
  subst hA
  have hp0 : I 67 = z0 := (hz 67 (by decide) (by decide)).1
  refine y_aload_n (n := 1) C 0 dX6_init_0 rfl rfl ?_
  refine y_obj (n := 4) C K dX6_init_1 rfl kM_RX6_3 (by decide) rfl ?_
  refine y_aload_n (n := 5) C 0 dX6_init_4 rfl rfl ?_
  refine y_iconst (n := 6) (v := 0) C dX6_init_5 rfl rfl ?_
  refine y_putB (n := 9) C K hin fF_RX6_9 (fun _ _ _ h => by cases h; exact ⟨rfl, kF_RX6_9⟩) dX6_init_6 rfl rfl (by decide) (by decide) ?_
  rw [upI_id (by rw [hp0]; rfl)]
  refine y_aload_n (n := 10) C 0 dX6_init_9 rfl rfl ?_
  refine y_iconst (n := 11) (v := 0) C dX6_init_10 rfl rfl ?_
  refine y_putI (n := 14) C K hin fF_RX6_15 (fun _ _ _ h => by cases h; exact ⟨rfl, kF_RX6_15⟩) dX6_init_11 rfl rfl (by decide) ?_
  rw [upI_id (by rw [hp0]; rfl)]
  refine y_aload_n (n := 15) C 0 dX6_init_14 rfl rfl ?_
  refine y_iconst (n := 16) (v := 0) C dX6_init_15 rfl rfl ?_
  refine y_putI (n := 19) C K hin fF_RX6_19 (fun _ _ _ h => by cases h; exact ⟨rfl, kF_RX6_19⟩) dX6_init_16 rfl rfl (by decide) ?_
  rw [upI_id (by rw [hp0]; rfl)]
  refine y_aload_n (n := 20) C 0 dX6_init_19 rfl rfl ?_
  refine y_bipush (n := 22) (v := 100) C dX6_init_20 rfl rfl ?_
  refine b_arrI (n := 24) (N1 := 69) (k1 := 1) (n1 := 100) (nn := 100) C K G (fun _ => (hz).sub (by decide) (by decide)) dX6_init_22 rfl rfl rfl (by decide) rfl rfl rfl (by rw [← hr.1]; decide) (by rw [← hr.2]; decide) ?_
  refine y_putR (n := 27) C K hin fF_RX6_22 (fun _ _ _ h => by cases h; exact ⟨rfl, kF_RX6_22⟩) dX6_init_24 rfl rfl (fun _ => ⟨rfl, rfl⟩) rfl (by decide) ?_
  exact y_ret C E dX6_init_27 hQ
