/-! arrays of references, grids, stores, calls of constructors in a world that grows -/
def ov (ty : FieldType) (U : State) : Prop := (Cond.arrayOver ty).before #[] U = true
theorem ov.use {ty : FieldType} {A : Array Value} {U : State} (h : ov ty U) : (Cond.arrayOver ty).before A U = true := h
theorem ov.moved {ty : FieldType} {u U : State} (hvm : u.vm.Alike U.vm) (h : ov ty u) : ov ty U := by
  have e := Cond.arrayOver_setVmC (args := #[]) hvm ty
  have e2 : (Cond.arrayOver ty).before #[] U = (Cond.arrayOver ty).before #[] (u.setVm U.vm) := rfl
  unfold ov; rw [e2, e]; exact h
def OV (U : State) : Prop := ov (.object RX6) U ∧ ov (.object RX0) U ∧ ov (.array .int) U
theorem OV.moved {u U : State} (hvm : u.vm.Alike U.vm) (h : OV u) : OV U := ⟨h.1.moved hvm, h.2.1.moved hvm, h.2.2.moved hvm⟩
section GROW2
variable {X : KX} {own : String} {cc : ByteArray} {d N k0 n0 : Nat} {I : KI} {J : KJ} {Rf : KR} {pc n : Nat} {L : List (Nat × Value)} {S : List Value}
theorem y_newq (C : Cx X own cc d) (K : Kx X) (G : Gx X) {idx ci nn : Nat} {cn : String} {c : Int32} (hcl : Cond.classLink own idx cn ∈ gW) (hov : ov (.object cn) (xs X)) (hd : decode cc pc = .ok (.anewarray idx, 3)) (hn : pc + 3 = n) (hs : sh N = (ci + 13, nn)) (ht0 : ∀ cy : Nat → ClassId, (tysO cy)[ci + 2]? = some (cy (ci + 2), .object cn)) (hc : c = nI nn) (hb : nn * 4 ≤ 536870912) (hR : Rf N = fun _ => none) (hkc : k0 + 1 ≤ (xRm X).cells) (hks : n0 + nn ≤ (xRm X).slots) (kk : Y X (N + 1) (k0 + 1) (n0 + nn) I J Rf n L (.ref (xad X N) :: S)) : Y X N k0 n0 I J Rf pc L (.int c :: S) := by
  subst hn; subst hc
  intro H locs ls hz hP hD hS hl
  have hb31 : nn < 2 ^ 31 := by omega
  refine W.anew C.x C.b C.own (C.ts _ hcl) (ov.use hov) rfl hd rfl (fun q => by rw [fa_lt, nI_toInt hb31] at q; simp only [Int32.reduceToInt] at q; omega) (by rw [nI_clamp hb31]; exact hb) hkc (by rw [nI_clamp hb31]; exact hks) fun cA kA comp f1 f2 f3 f4 => ?_
  rw [nI_clamp hb31]
  generalize hH1 : H.push ({ cls := cA, slots := Array.replicate nn .null, vm := .none } : Cell) = H1
  have z1 : H1.size = H.size + 1 := by rw [← hH1, Array.size_push]
  have e1 : H1[H.size]? = some (arrV cA nn (fun _ => .null)) := by rw [← hH1, Array.getElem?_push_size, ← arrV_new]
  have o1 : ∀ q : Nat, q < H.size → H1[q]? = H[q]? := fun q hq => by rw [← hH1, Array.getElem?_push, if_neg (Nat.ne_of_lt hq)]
  have hk : ∀ (k : Nat) (x : Nat × va_E), (wsO (xcy X) (xad X) N I J Rf)[k]? = some x → H1[x.1]? = H[x.1]? := fun k x hx => o1 x.1 ((hP k x hx).lt)
  obtain ⟨kA2, comp2, -, -, -, g4⟩ := (K.1.2 _ _ (ht0 _)).2
  have ecA : cA = xcy X (ci + 2) := Option.some.inj (f1.symm.trans g4)
  have e : wsO (xcy X) (xad X) (N + 1) I J Rf = wsO (xcy X) (xad X) N I J Rf ++ [(H.size, .inl (cA, nn, .inr (.inr (.inr (.inr (fun _ => none))))))] := by rw [wsO_1, cell_R hs, hz, ecA, hR]; rfl
  rw [hz]
  refine kk H1 locs ls (by rw [z1, hz, G]) ?_ ?_ ⟨Nat.le_trans hS.1 (by omega), fun x h1 h2 => (o1 x (Nat.lt_of_lt_of_le h1 hS.1)).trans (hS.2.1 x h1 h2), hS.2.2⟩ hl
  · rw [e]
    refine (hP.kept hk).app (fun k x hx => ?_)
    have hz1 : k < 1 := (List.getElem?_eq_some_iff.mp hx).1
    rw [show k = 0 by omega] at hx
    cases hx
    show H1[H.size]? = some (vp_cell _ _)
    rw [vp_cell_q]
    exact e1
  · rw [e]; exact hD.push hP rfl (C.hA _ hS.1)
theorem Gx.lt (G : Gx X) : ∀ {p q : Nat}, p < q → xad X p < xad X q := by
  intro p q h
  induction q with
  | zero => omega
  | succ q ih =>
    rw [G]
    by_cases e : p = q
    · subst e; omega
    · have := ih (by omega); omega
theorem Gx.add (G : Gx X) (p : Nat) : ∀ k, xad X (p + k) = xad X p + k
  | 0 => rfl
  | k + 1 => by rw [← Nat.add_assoc, G, Gx.add G p k]; rfl
theorem Gx.D (G : Gx X) {M : Nat} {I' : KI} {J' : KJ} {Rf' : KR} {A : Nat → Prop} (h : ∀ p, p < M → A (xad X p)) : va_D A (wsO (xcy X) (xad X) M I' J' Rf') := by
  refine ⟨fun i j p q hp hq e => ?_, fun k q hq => ?_⟩
  · obtain ⟨hi, rfl⟩ := wsO_some hp
    obtain ⟨hj, rfl⟩ := wsO_some hq
    rcases Nat.lt_trichotomy i j with h1 | h1 | h1
    · exact absurd e (Nat.ne_of_lt (G.lt h1))
    · exact h1
    · exact absurd e.symm (Nat.ne_of_lt (G.lt h1))
  · obtain ⟨hk, rfl⟩ := wsO_some hq
    exact h k hk
theorem y_mna (C : Cx X own cc d) (K : Kx X) (G : Gx X) {idx : Nat} {Rf' : KR} (hcl : Cond.classLink own idx "[[I" ∈ gW) (hov : ov (.array .int) (xs X)) (har : Cond.arrayClass .int ∈ gW) (hd : decode cc pc = .ok (.multianewarray idx 2, 4)) (hn : pc + 4 = n) (hs : sh N = (15, 7)) (hsr : ∀ i, i < 7 → sh (N + 1 + i) = (11, 7)) (hI : ∀ i, i < 7 → I (N + 1 + i) = fun _ => 0) (hR : ∀ p, p ≠ N → Rf' p = Rf p) (hRN : Rf' N = fun i => if i < 7 then some (N + 1 + i) else none) (hkc : k0 + 8 ≤ (xRm X).cells) (hks : n0 + 56 ≤ (xRm X).slots) (kk : Y X (N + 8) (k0 + 8) (n0 + 56) I J Rf' n L (.ref (xad X N) :: S)) : Y X N k0 n0 I J Rf pc L (.int 7 :: .int 7 :: S) := by
  subst hn
  intro H locs ls hz hP hD hS hl T hT Xs
  obtain ⟨vm₁, cA, comp, -, fA, fC, hO, -, X', step⟩ := Xs.multianewarray2F (ty := .int) C.x C.own (C.ts _ hcl) (ov.use hov) (C.ts _ har) (g := F0 (xm X) pc ls (.int 7 :: .int 7 :: S)) rfl (by rw [C.b]; exact hd) rfl (by decide) (by decide) (by decide) (by decide) (by decide) rfl rfl hkc hks
  have ec : comp = xcy X 0 := Option.some.inj (fC.symm.trans (K.1.2 0 _ rfl).2)
  obtain ⟨kA2, comp2, g1, g2, g3⟩ : ∃ a b : Nat, True ∧ True ∧ True := ⟨0, 0, trivial, trivial, trivial⟩
  have ecA : cA = xcy X 4 := Option.some.inj (fA.symm.trans (K.1.2 4 _ rfl).2)
  subst ec; subst ecA
  have h7 : (7 : Int32).toNatClampNeg = 7 := rfl
  rw [h7] at X' step
  generalize hF : Jvm.Free.Multi.fill (T.setVm vm₁) (xcy X 4) (xcy X 0) 7 7 (defaultValue .int) 7 = F at X' step
  have hTh : (T.setVm vm₁).heap = H := hT
  obtain ⟨f1, f2, -, -⟩ := Jvm.Free.Multi.fill_facts (T.setVm vm₁) (xcy X 4) (xcy X 0) 7 7 (defaultValue .int) 7
  rw [hF, hTh] at f1 f2
  have hold : ∀ x : Nat, x < H.size → F.heap[x]? = H[x]? := fun x hx => by
    have := Jvm.Free.Multi.fill_old (T.setVm vm₁) (xcy X 4) (xcy X 0) 7 7 (defaultValue .int) (a := x) (by rw [hTh]; exact hx) 7
    rw [hF, hTh] at this
    exact this
  have hrow : ∀ j : Nat, j < 7 → F.heap[H.size + 1 + j]? = some (Jvm.Free.Multi.innerC (xcy X 0) 7 (defaultValue .int)) := fun j hj => by
    have := Jvm.Free.Multi.fill_inner (T.setVm vm₁) (xcy X 4) (xcy X 0) 7 7 (defaultValue .int) 7 j hj
    rw [hF, hTh] at this
    exact this
  rw [hT, hz] at step
  have hP9 : va_P (xD X) vwCl (wsO (xcy X) (xad X) (N + 8) I J Rf') F.heap := by
    intro k q hq
    obtain ⟨hk, rfl⟩ := wsO_some hq
    by_cases h1 : k < N
    · have e : cellE (xcy X) (xad X) I J Rf' k = cellE (xcy X) (xad X) I J Rf k := by unfold cellE flds fldv; simp only [hR k (by omega)]
      rw [e]
      have hk2 := hP k _ (wsO_get h1)
      exact hk2.kept (hold _ hk2.lt)
    · by_cases h2 : k = N
      · subst h2
        rw [cell_R (ci := 2) hs]
        show F.heap[xad X k]? = some (vp_cell _ _)
        rw [← hz, f2, vp_cell_q, vr_outer, hRN]
        congr 2
        funext i
        by_cases h3 : i < 7
        · rw [if_pos h3]; show _ = va_rf (Option.map (xad X) (if i < 7 then some (k + 1 + i) else none)); rw [if_pos h3, hz, ← G, ← G.add]; rfl
        · rw [if_neg h3]; show _ = va_rf (Option.map (xad X) (if i < 7 then some (k + 1 + i) else none)); rw [if_neg h3]; rfl
      · obtain ⟨i, rfl⟩ : ∃ i, k = N + 1 + i := ⟨k - N - 1, by omega⟩
        rw [cell_I (hsr i (by omega)), hI i (by omega)]
        show F.heap[xad X (N + 1 + i)]? = some (vp_cell _ _)
        have e : xad X (N + 1 + i) = H.size + 1 + i := by rw [G.add, G, hz]
        rw [e, hrow i (by omega)]
        rfl
  have hD9 : va_D (xA X) (wsO (xcy X) (xad X) (N + 8) I J Rf') := by
    refine G.D (fun p hp => ?_)
    by_cases h1 : p < N
    · exact hD.2 p _ (wsO_get h1)
    · refine C.hA _ (Nat.le_trans hS.1 ?_)
      rw [hz]
      by_cases h2 : p = N
      · subst h2; exact Nat.le_refl _
      · exact Nat.le_of_lt (G.lt (by omega))
  obtain ⟨t, a1, b1⟩ := kk F.heap locs ls (by rw [f1, hz, G.add]) hP9 hD9 ⟨by rw [f1]; have := hS.1; omega, fun x h1 h2 => (hold x (Nat.lt_of_lt_of_le h1 hS.1)).trans (hS.2.1 x h1 h2), hS.2.2⟩ hl F rfl X'
  exact ⟨t, step _ a1, b1⟩
theorem y_iast (C : Cx X own cc d) (K : Kx X) {p nn j : Nat} {i v : Int32} (hd : decode cc pc = .ok (.iastore, 1)) (hn : pc + 1 = n) (hs : sh p = (11, nn)) (hp : p < N) (hi : i = nI j) (hj : j < nn) (hnn : nn < 2 ^ 31) (kk : Y X N k0 n0 (upI I p j v) J Rf n L S) : Y X N k0 n0 I J Rf pc L (.int v :: .int i :: .ref (xad X p) :: S) := by
  subst hn; subst hi
  intro H locs ls hz hP hD hS hl
  have hg : (wsO (xcy X) (xad X) N I J Rf)[p]? = some (xad X p, .inl (xcy X 0, nn, .inl (I p))) := wsO_get hp |>.trans (by rw [cell_I hs])
  have hc : (nI j).toNatClampNeg = j := nI_clamp (by omega)
  refine W.iast C.x C.b (hP p _ hg) ((K.1.2 0 _ rfl).1 nn (fun j => .int (I p j))) (fun q => by cases q) (by show ¬ (nI j < 0 ∨ (arrV _ _ _).slots.size ≤ _); rw [arrV_size]; exact vp_in_nI hj (by omega)) rfl rfl hd fun H1 e z oq => ?_
  rw [hc] at e ⊢
  have e9 : (wsO (xcy X) (xad X) N I J Rf).set p (xad X p, .inl (xcy X 0, nn, .inl (upd (I p) j v))) = wsO (xcy X) (xad X) N (upI I p j v) J Rf := by
    refine wsO_set hp ?_ (fun q h => cellE_I h)
    rw [cell_I hs, upI_at]
  have hP1 : va_P (xD X) vwCl ((wsO (xcy X) (xad X) N I J Rf).set p (xad X p, .inl (xcy X 0, nn, .inl (upd (I p) j v)))) H1 := hP.set hD hg (by
    show H1[xad X p]? = some (vp_cell _ _)
    rw [e, vp_cell_i, vp_cell_i, arrV_store]
    congr 2
    funext q
    by_cases hq : q = j
    · subst hq; simp [updV, upd]
    · simp [updV, upd, hq]) oq
  have hD1 := hD.set (e := .inl (xcy X 0, nn, .inl (upd (I p) j v))) hg
  rw [e9] at hP1 hD1
  exact kk H1 _ ls (by rw [z]; exact hz) hP1 hD1 (hS.put z oq (hD.2 p _ hg)) hl
theorem y_aast (C : Cx X own cc d) (K : Kx X) {p q ci ck nn j nq : Nat} {r : vw_C} {i : Int32} (hd : decode cc pc = .ok (.aastore, 1)) (hn : pc + 1 = n) (hs : sh p = (ci + 13, nn)) (hp : p < N) (hi : i = nI j) (hj : j < nn) (hnn : nn < 2 ^ 31) (ht : (tysO (xcy X))[ci + 2]? = some (xcy X (ci + 2), .object r.1)) (hc : vwCl[ck]? = some r) (hsq : sh q = (ck, nq)) (hck : ck < 11) (hq : q < N) (kk : Y X N k0 n0 I J (upR Rf p j (some q)) n L S) : Y X N k0 n0 I J Rf pc L (.ref (xad X q) :: .int i :: .ref (xad X p) :: S) := by
  subst hn; subst hi
  intro H locs ls hz hP hD hS hl
  have hg : (wsO (xcy X) (xad X) N I J Rf)[p]? = some (xad X p, .inl (xcy X (ci + 2), nn, .inr (.inr (.inr (.inr (fun i => (Rf p i).map (xad X))))))) := wsO_get hp |>.trans (by rw [cell_R hs])
  have hgq : (wsO (xcy X) (xad X) N I J Rf)[q]? = some (xad X q, .inr (ck, flds (xad X) I J Rf q ck)) := wsO_get hq |>.trans (by rw [cell_obj hsq hck])
  have hcl : (nI j).toNatClampNeg = j := nI_clamp (by omega)
  obtain ⟨r', hr', cellV, g1, g2, g3, -⟩ := hP q _ hgq
  have hcls := (K.1.1 ck r hc).2
  obtain ⟨kA, comp, k1, k2, k3, -⟩ := (K.1.2 _ _ ht).2
  have hcomp : comp = (xD X).1 ck := Option.some.inj (k3.symm.trans hcls.1)
  subst hcomp
  obtain ⟨kC, hkC, -⟩ := hcls.2
  refine W.aast C.x C.b (hP p _ hg) (fun q h => by cases h) (fun h => by cases h) k1 k2 rfl hkC ⟨(fun h => (vp_in_nI hj (by omega)) (Or.inl h)), by show _ < (arrV _ _ _).slots.size; rw [arrV_size, hcl]; exact hj⟩ g1 (fun q h => by rw [g3] at h; cases h) (by rw [g2]; exact hkC) (by rw [g2]; exact va_assign hcls) rfl rfl hd fun H1 e z oq => ?_
  rw [hcl] at e ⊢
  have e9 : (wsO (xcy X) (xad X) N I J Rf).set p (xad X p, .inl (xcy X (ci + 2), nn, .inr (.inr (.inr (.inr (va_up (fun i => (Rf p i).map (xad X)) j (some (xad X q)))))))) = wsO (xcy X) (xad X) N I J (upR Rf p j (some q)) := by
    refine wsO_set hp ?_ (fun q h => cellE_R h)
    rw [cell_R hs]
    congr 7
    funext i
    by_cases h : i = j
    · subst h; rw [upR_same]; simp [va_up]
    · rw [upR_k _ _ h]; simp [va_up, h]
  have hP1 : va_P (xD X) vwCl ((wsO (xcy X) (xad X) N I J Rf).set p (xad X p, .inl (xcy X (ci + 2), nn, .inr (.inr (.inr (.inr (va_up (fun i => (Rf p i).map (xad X)) j (some (xad X q))))))))) H1 := hP.set hD hg (by
    show H1[xad X p]? = some (vp_cell _ _)
    rw [e, vp_cell_q, vp_cell_q, arrV_store]
    congr 2
    funext q
    by_cases hq : q = j
    · subst hq; simp [updV, va_up, va_rf]
    · simp [updV, va_up, hq]) oq
  have hD1 := hD.set (e := .inl (xcy X (ci + 2), nn, .inr (.inr (.inr (.inr (va_up (fun i => (Rf p i).map (xad X)) j (some (xad X q)))))))) hg
  rw [e9] at hP1 hD1
  exact kk H1 _ ls (by rw [z]; exact hz) hP1 hD1 (hS.put z oq (hD.2 p _ hg)) hl
theorem y_getR (C : Cx X own cc d) (K : Kx X) {idx ci k p nn q : Nat} {ty : FieldType} {fin : Bool} (hF : Fk own idx ci k ty fin) (hd : decode cc pc = .ok (.getfield idx, 3)) (hn : pc + 3 = n) (hk : kt ty = 2) (hs : sh p = (ci, nn)) (hp : p < N) (hr : Rf p k = some q) (kk : Y X N k0 n0 I J Rf n L (.ref (xad X q) :: S)) : Y X N k0 n0 I J Rf pc L (.ref (xad X p) :: S) := by
  subst hn
  obtain ⟨Cn, T, M, ty0, h1, h2, h3, h4, h5, -, -, -, -, h9⟩ := hF
  have e : fldv (xad X) I J Rf p k (kt ty) = .ref (xad X q) := by
    rw [hk]; unfold fldv; rw [if_neg (by decide), if_neg (by decide), hr]; rfl
  rw [← e] at kk
  intro H locs ls hz hP hD hS hl
  rcases h4 with h4 | ⟨host, h4⟩
  · exact va_get C.x C.b C.ts h3 C.own K.1 hP p (wsO_get hp |>.trans (by rw [cell_obj hs h5])) h1 k h2 (C.ts _ h4) (fun _ h => h) (flds_get h9) hd (kk H locs ls hz hP hD hS hl)
  · exact va_getN C.x C.b C.ts h3 C.own K.1 hP p (wsO_get hp |>.trans (by rw [cell_obj hs h5])) h1 k h2 (va_Nw.use rfl (K.2.1 _ h4)) (fun _ h => h) (flds_get h9) hd (kk H locs ls hz hP hD hS hl)
end GROW2
/-! constructors -/
def rmc (d mc ms : Nat) : Room := { frames := d, cells := mc, slots := ms, locals := 40 * d }
def AN (ad : Nat → Nat) (N sz : Nat) : Nat → Prop := fun q => (∃ p, p < N ∧ q = ad p) ∨ sz ≤ q
def PN (D : va_G) (cy : Nat → ClassId) (ad : Nat → Nat) (N : Nat) (I : KI) (J : KJ) (Rf : KR) (sz : Nat) (U : State) : Prop := U.heap.size = sz ∧ sz = ad N ∧ va_P D vwCl (wsO cy ad N I J Rf) U.heap ∧ va_K D vwCl (tysO cy) U ∧ va_D (fun _ => True) (wsO cy ad N I J Rf) ∧ NW U ∧ OV U
def QN (D : va_G) (cy : Nat → ClassId) (ad : Nat → Nat) (N : Nat) (u : KS) (t : State) : Prop := t.heap.size = ad N ∧ va_P D vwCl (wsO cy ad N u.1 u.2.1 u.2.2) t.heap
def Mc (d mc ms : Nat) (y : MethodName) (ws : List Cond) (p N N' : Nat) (ad : Nat → Nat) (I : KI) (J : KJ) (Rf : KR) (Q : KI → KJ → KR → Prop) : Prop := ∀ (l : Launch) (D : va_G) (cy : Nat → ClassId) (sz : Nat), Met l y ws (rmc d mc ms) (va_Pc [.ref (ad p)] (PN D cy ad N I J Rf sz)) (va_Qv (fun (u : KS) => Q u.1 u.2.1 u.2.2) (QN D cy ad N') (AN ad N sz)) mc ms (AN ad N sz)
def Ec (X : KX) (N' mc ms : Nat) (Q : KI → KJ → KR → Prop) : Prop := (xmeth X).sig.returnType = none ∧ xQ X = MQ (xbelow X) (va_Qv (fun (u : KS) => Q u.1 u.2.1 u.2.2) (QN (xD X) (xcy X) (xad X) N') (xA X)) (xa X) (xs X) mc ms (xA X)
section CTORS
variable {X : KX} {own : String} {cc : ByteArray} {d N k0 n0 : Nat} {I : KI} {J : KJ} {Rf : KR} {pc n : Nat} {L : List (Nat × Value)} {S : List Value}
theorem y_ret (C : Cx X own cc d) {mc ms : Nat} {Q : KI → KJ → KR → Prop} (E : Ec X N mc ms Q) (hd : decode cc pc = .ok (.return_, 1)) (hq : Q I J Rf) : Y X N mc ms I J Rf pc L [] := by
  intro H locs ls hz hP hD hS hl
  rw [E.2]
  exact W.vret C.x C.b E.1 (fun t ht hW => ⟨⟨(I, J, Rf), rfl, hq, by unfold QN; rw [ht]; exact ⟨hz, hP⟩⟩, hS.F ht⟩) hS.2.2 hd C.lk
theorem mc_of {y : MethodName} {b : ByteArray} {nl p N' mc ms : Nat} {ad : Nat → Nat} {Q : KI → KJ → KR → Prop} (hY : Yk y b nl none 0) (hyn : y.name = "<init>") (hown : y.cls = own) (hnl : 1 ≤ nl) (hG : ∀ q, ad (q + 1) = ad q + 1) (body : ∀ X : KX, xad X = ad → xnL X = nl → Cx X own b d → Kx X → (xmeth X).name = "<init>" → OV (xs X) → (mc = (xRm X).cells ∧ ms = (xRm X).slots) → Ec X N' mc ms Q → Y X N 0 0 I J Rf 0 [(0, .ref (ad p))] []) : Mc d mc ms y (wm y b nl none) p N N' ad I J Rf Q := by
  intro l D cy sz
  subst hown
  refine Met.ofW (cc := b) (maxL := nl) (ret := none) hY.1 rfl ?_
  intro p' e s m args below meth c s₁ B hml hv
  obtain ⟨rfl, hsz, hz, hP, hK, hD0, hN, hO⟩ := hv
  subst hsz
  have hD : va_D (AN ad N s.heap.size) (wsO cy ad N I J Rf) := hD0.weaken (fun k q hk _ => by obtain ⟨h1, rfl⟩ := wsO_some hk; exact Or.inl ⟨k, h1, rfl⟩)
  have hts := atoms_spec (ws := wm y b nl none) B.pre
  have hl := lv_entry [.ref (ad p)] (n := nl) (by show 1 ≤ nl; exact hnl)
  rw [lg_entry_eq]
  exact body (p', l, e, (headSpec (wm y b nl none) (rmc d mc ms)).room, s, m, [Value.ref (ad p)].toArray, below, meth, c, D, cy, AN ad N s.heap.size, MQ below (va_Qv (fun (u : KS) => Q u.1 u.2.1 u.2.2) (QN D cy ad N') (AN ad N s.heap.size)) [Value.ref (ad p)].toArray s mc ms (AN ad N s.heap.size), ad, nl) rfl rfl ⟨B.exec, B.bytes, hml, findClass_of_methodNamed B.named, fun w hw => hts w (List.mem_cons_of_mem _ hw), B.notSynchronized, ⟨Nat.le_refl d, Nat.le_refl (40 * d)⟩, fun q h => Or.inr h⟩ ⟨hK, hN⟩ ((name_of_methodNamed B.named B.method).1.trans hyn) hO ⟨rfl, rfl⟩ ⟨B.returns, rfl⟩ s.heap [] _ hz hP hD va_S.rf hl
theorem pn_blind {D : va_G} {cy : Nat → ClassId} {ad : Nat → Nat} {sz : Nat} {av : List Value} : FrameBlind (va_Pc av (PN D cy ad N I J Rf sz)) := fun a U g mk q => by obtain ⟨q0, q1, q2, qP, qK, qD, qN, qO⟩ := q; exact ⟨q0, q1, q2, qP, va_K.moved (u := U) (U := U.calling g mk a) (Vm.Alike.refl U.vm) qK, qD, NW.same (u := U) rfl qN, OV.moved (u := U) (U := U.calling g mk a) (Vm.Alike.refl U.vm) qO⟩
theorem cwc (C : Cx X own cc d) {d' mc ms : Nat} (hdd : d' < d) {idx : Nat} {y : MethodName} {b : ByteArray} {nl : Nat} (hY : Yk y b nl none 0) (hyn : y.name = "<init>") (hI : Cond.instanceMethod y ∈ gW) (hm : Cond.methodLink own idx y ∈ gW) : CallB (xRm X) (xs X) (xa X) own idx y b nl none (wm y b nl none) (rmc d' mc ms) mc ms 0 ∧ y.name = "<init>" ∧ (Cond.instanceMethod y).before (xa X) (xs X) = true := by
  refine ⟨⟨rfl, rfl, ?_, ?_, fun w hw a' U hW => word_at hW ((goodM hY) w hw).2 (C.ts w ((goodM hY) w hw).1), List.mem_cons_self, C.ts _ hY.2.1, C.ts _ hY.2.2.1, ⟨hY.2.2.2.1, hY.2.2.2.2.1⟩, ?_, C.ts _ hm⟩, hyn, C.ts _ hI⟩
  · have := C.rm.1; show d' + 1 ≤ _; omega
  · have := C.rm.2; have h2 := hY.2.2.2.2.2.2; show 8 + (nl + 11) + 40 * d' ≤ _; omega
  · intro sig h
    have := hY.2.2.2.2.2.1
    rw [h] at this
    exact (Option.some.inj this).symm
theorem y_call (C : Cx X own cc d) (K : Kx X) (G : Gx X) (O : OV (xs X)) {d' mc ms nl p N' idx : Nat} {y : MethodName} {b : ByteArray} (hd : decode cc pc = .ok (.invokespecial idx, 3)) (hn : pc + 3 = n) (hY : Yk y b nl none 0) (hyn : y.name = "<init>") (hI : Cond.instanceMethod y ∈ gW) (hm : Cond.methodLink own idx y ∈ gW) (hdd : d' < d) (hw : ((S.map fun (v : Value) => v.category).sum).ble 8 = true) (hkc : k0 + mc ≤ (xRm X).cells) (hks : n0 + ms ≤ (xRm X).slots) (M : Mc d' mc ms y (wm y b nl none) p N N' (xad X) I J Rf (fun I' J' R' => Y X N' (k0 + mc) (n0 + ms) I' J' R' n L S)) : Y X N k0 n0 I J Rf pc L (.ref (xad X p) :: S) := by
  subst hn
  intro H locs ls hz hP hD hS hl
  have hA : ∀ q, AN (xad X) N H.size q → xA X q := fun q h => by
    rcases h with ⟨p, hp, rfl⟩ | h
    · exact hD.2 p _ (wsO_get hp)
    · exact C.hA q (Nat.le_trans hS.1 h)
  refine va_callv (va_runI (As := []) (rest := S) ⟨C.x, C.b, C.ml, C.own, C.ts⟩ (M (xl X) (xD X) (xcy X) H.size) (cwc C hdd hY hyn hI hm) ⟨pn_blind, fun U hU hW => ⟨rfl, by rw [hU], hz, by rw [hU]; exact hP, va_K.moved hW.alike K.1, hD.weaken (fun _ _ _ _ => trivial), NW.warm hW K.2, OV.moved hW.alike O⟩⟩ rfl rfl hl.1 rfl (lv_room (Nat.le_of_ble_eq_true hw)) hd ⟨hkc, hks⟩) hS (fun q _ h => hA q h) hA (fun u t H1 locs1 ht hvm hpost hB hz1 hk hS1 => ?_)
  obtain ⟨hB1, hB2⟩ := hB
  rw [ht] at hB1 hB2
  refine hpost H1 locs1 ls hB1 hB2 (G.D (fun q hq => ?_)) hS1 hl
  by_cases h : q < N
  · exact hD.2 q _ (wsO_get h)
  · refine C.hA _ (Nat.le_trans hS.1 ?_)
    rw [hz]
    rcases Nat.lt_or_ge N q with h1 | h1
    · exact Nat.le_of_lt (G.lt h1)
    · rw [show q = N by omega]; exact Nat.le_refl _
theorem cwcN (C : Cx X own cc d) (K : Kx X) {d' mc ms : Nat} (hdd : d' < d) {idx : Nat} {y : MethodName} {b : ByteArray} {nl : Nat} (hY : Yk y b nl none 0) (hyn : y.name = "<init>") (hI : Cond.instanceMethod y ∈ gW) {host : String} (hm : (own, idx, y, host) ∈ nestM) : va_CN (xRm X) (xs X) (xa X) own idx y host b nl none (wm y b nl none) (rmc d' mc ms) mc ms 0 ∧ y.name = "<init>" ∧ (Cond.instanceMethod y).before (xa X) (xs X) = true := by
  refine ⟨va_cnB 0 C.ts (goodM hY) rfl rfl rfl (K.2.2 _ hm) (C.ts _ hY.2.2.1) ⟨hY.2.2.2.1, hY.2.2.2.2.1, hY.2.2.2.2.2.1⟩ ⟨?_, ?_⟩, hyn, C.ts _ hI⟩
  · have := C.rm.1; show d' + 1 ≤ _; omega
  · have := C.rm.2; have h2 := hY.2.2.2.2.2.2; show 8 + (nl + 11) + 40 * d' ≤ _; omega
theorem y_callN (C : Cx X own cc d) (K : Kx X) (G : Gx X) (O : OV (xs X)) {d' mc ms nl p N' idx : Nat} {y : MethodName} {b : ByteArray} (hd : decode cc pc = .ok (.invokespecial idx, 3)) (hn : pc + 3 = n) (hY : Yk y b nl none 0) (hyn : y.name = "<init>") (hI : Cond.instanceMethod y ∈ gW) {host : String} (hm : (own, idx, y, host) ∈ nestM) (hdd : d' < d) (hw : ((S.map fun (v : Value) => v.category).sum).ble 8 = true) (hkc : k0 + mc ≤ (xRm X).cells) (hks : n0 + ms ≤ (xRm X).slots) (M : Mc d' mc ms y (wm y b nl none) p N N' (xad X) I J Rf (fun I' J' R' => Y X N' (k0 + mc) (n0 + ms) I' J' R' n L S)) : Y X N k0 n0 I J Rf pc L (.ref (xad X p) :: S) := by
  subst hn
  intro H locs ls hz hP hD hS hl
  have hA : ∀ q, AN (xad X) N H.size q → xA X q := fun q h => by
    rcases h with ⟨p, hp, rfl⟩ | h
    · exact hD.2 p _ (wsO_get hp)
    · exact C.hA q (Nat.le_trans hS.1 h)
  refine va_callv (va_runIN (As := []) (rest := S) ⟨C.x, C.b, C.ml, C.own, C.ts⟩ (M (xl X) (xD X) (xcy X) H.size) (cwcN C K hdd hY hyn hI hm) ⟨pn_blind, fun U hU hW => ⟨rfl, by rw [hU], hz, by rw [hU]; exact hP, va_K.moved hW.alike K.1, hD.weaken (fun _ _ _ _ => trivial), NW.warm hW K.2, OV.moved hW.alike O⟩⟩ rfl rfl hl.1 rfl (lv_room (Nat.le_of_ble_eq_true hw)) hd ⟨hkc, hks⟩) hS (fun q _ h => hA q h) hA (fun u t H1 locs1 ht hvm hpost hB hz1 hk hS1 => ?_)
  obtain ⟨hB1, hB2⟩ := hB
  rw [ht] at hB1 hB2
  refine hpost H1 locs1 ls hB1 hB2 (G.D (fun q hq => ?_)) hS1 hl
  by_cases h : q < N
  · exact hD.2 q _ (wsO_get h)
  · refine C.hA _ (Nat.le_trans hS.1 ?_)
    rw [hz]
    rcases Nat.lt_or_ge N q with h1 | h1
    · exact Nat.le_of_lt (G.lt h1)
    · rw [show q = N by omega]; exact Nat.le_refl _
end CTORS
