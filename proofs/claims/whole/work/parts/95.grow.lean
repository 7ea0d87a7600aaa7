/-! a world that grows: Y X N: N places are there, the next address is that of place N -/
def Y (X : KX) (N k n : Nat) (I : KI) (J : KJ) (Rf : KR) (pc : Nat) (L : List (Nat × Value)) (S : List Value) : Prop :=
  ∀ (H : Heap) (locs : List Loc) (ls : Array Slot), H.size = xad X N → va_P (xD X) vwCl (wsO (xcy X) (xad X) N I J Rf) H → va_D (xA X) (wsO (xcy X) (xad X) N I J Rf) → va_S (xA X) (xs X).heap H locs → lv_has ls (xnL X) L →
    W (xp X) (xl X) (xe X) (xRm X) (xs X) (xm X) (xa X) (xbelow X) (xmeth X) (xc X) H locs k n (xQ X) (F0 (xm X) pc ls S)
def Gx (X : KX) : Prop := ∀ q, xad X (q + 1) = xad X q + 1
theorem wsO_1 (cy : Nat → ClassId) (ad : Nat → Nat) (N : Nat) (I : KI) (J : KJ) (Rf : KR) : wsO cy ad (N + 1) I J Rf = wsO cy ad N I J Rf ++ [(ad N, cellE cy ad I J Rf N)] := by
  unfold wsO; rw [List.range_succ, List.map_append]; rfl
section GROW
variable {X : KX} {own : String} {cc : ByteArray} {d N k0 n0 : Nat} {I : KI} {J : KJ} {Rf : KR} {pc n : Nat} {L : List (Nat × Value)} {S : List Value}
theorem y_z (k : Z X k0 n0 (V X I J Rf) pc L S) : Y X 110 k0 n0 I J Rf pc L S := fun H locs ls _ hP hD hS hl => k H locs ls hP hD hS hl
theorem y_wid {k1 n1 : Nat} (h1 : k0 ≤ k1) (h2 : n0 ≤ n1) (k : Y X N k1 n1 I J Rf pc L S) : Y X N k0 n0 I J Rf pc L S := fun H locs ls hz hP hD hS hl => W.widen h1 h2 (k H locs ls hz hP hD hS hl)
theorem y_sub {L' : List (Nat × Value)} (ks : List Nat) (hl : lv_pick L ks = L') (k : Y X N k0 n0 I J Rf pc L' S) : Y X N k0 n0 I J Rf pc L S := fun H locs ls hz hP hD hS h => k H locs ls hz hP hD hS (lv_sub h ks hl)
theorem y_iconst (C : Cx X own cc d) {v : Int32} {i : Int} (hd : decode cc pc = .ok (.iconst i, 1)) (hn : pc + 1 = n) (hv : Int32.ofInt i = v) (k : Y X N k0 n0 I J Rf n L (.int v :: S)) : Y X N k0 n0 I J Rf pc L (S) := by
  subst hn; intro H locs ls hz hP hD hS hl; exact lv_iconst C.x C.b hd hv (k H locs ls hz hP hD hS hl)
theorem y_bipush (C : Cx X own cc d) {v : Int32} {i : Int} (hd : decode cc pc = .ok (.bipush i, 2)) (hn : pc + 2 = n) (hv : (Int8.ofInt i).toInt32 = v) (k : Y X N k0 n0 I J Rf n L (.int v :: S)) : Y X N k0 n0 I J Rf pc L (S) := by
  subst hn; intro H locs ls hz hP hD hS hl; exact lv_bipush C.x C.b hd hv (k H locs ls hz hP hD hS hl)
theorem y_sipush (C : Cx X own cc d) {v : Int32} {i : Int} (hd : decode cc pc = .ok (.sipush i, 3)) (hn : pc + 3 = n) (hv : (Int16.ofInt i).toInt32 = v) (k : Y X N k0 n0 I J Rf n L (.int v :: S)) : Y X N k0 n0 I J Rf pc L (S) := by
  subst hn; intro H locs ls hz hP hD hS hl; exact lv_sipush C.x C.b hd hv (k H locs ls hz hP hD hS hl)
theorem y_lconst (C : Cx X own cc d) {v : Int64} {i : Fin 2} (hd : decode cc pc = .ok (.lconst i, 1)) (hn : pc + 1 = n) (hv : Int64.ofNat (i : Nat) = v) (k : Y X N k0 n0 I J Rf n L (.long v :: S)) : Y X N k0 n0 I J Rf pc L (S) := by
  subst hn; intro H locs ls hz hP hD hS hl; exact lv_lconst C.x C.b hd hv (k H locs ls hz hP hD hS hl)
theorem y_dup (C : Cx X own cc d) {v : Value} (hd : decode cc pc = .ok (.dup, 1)) (hn : pc + 1 = n) (hv : v.category = 1) (k : Y X N k0 n0 I J Rf n L (v :: v :: S)) : Y X N k0 n0 I J Rf pc L (v :: S) := by
  subst hn; intro H locs ls hz hP hD hS hl; exact lv_dup C.x C.b hd hv (k H locs ls hz hP hD hS hl)
theorem y_aload_n (C : Cx X own cc d) {j : Fin 4} {x : Nat} (i : Nat) (hd : decode cc pc = .ok (.aload_n j, 1)) (hn : pc + 1 = n) (hk : L[i]? = some ((j : Nat), .ref x)) (k : Y X N k0 n0 I J Rf n L (.ref x :: S)) : Y X N k0 n0 I J Rf pc L S := by
  subst hn; intro H locs ls hz hP hD hS hl; exact lv_aload_n C.x C.b hd rfl (lv_at hl i hk) (k H locs ls hz hP hD hS hl)
theorem y_astore_n (C : Cx X own cc d) {j : Fin 4} {x : Nat} {L' : List (Nat × Value)} (hd : decode cc pc = .ok (.astore_n j, 1)) (hn : pc + 1 = n) (hb : (j : Nat) < xnL X) (hL : lput (j : Nat) (.ref x) L = L') (k : Y X N k0 n0 I J Rf n L' S) : Y X N k0 n0 I J Rf pc L (.ref x :: S) := by
  subst hn; intro H locs ls hz hP hD hS hl; exact lv_astore_n C.x C.b hd rfl hl hb hL (fun ls' hl' => k H locs ls' hz hP hD hS hl')
theorem y_istore_n (C : Cx X own cc d) {j : Fin 4} {x : Int32} {L' : List (Nat × Value)} (hd : decode cc pc = .ok (.istore_n j, 1)) (hn : pc + 1 = n) (hb : (j : Nat) < xnL X) (hL : lput (j : Nat) (.int x) L = L') (k : Y X N k0 n0 I J Rf n L' S) : Y X N k0 n0 I J Rf pc L (.int x :: S) := by
  subst hn; intro H locs ls hz hP hD hS hl; exact lv_istore_n C.x C.b hd rfl hl hb hL (fun ls' hl' => k H locs ls' hz hP hD hS hl')
theorem y_iload_n (C : Cx X own cc d) {j : Fin 4} {x : Int32} (i : Nat) (hd : decode cc pc = .ok (.iload_n j, 1)) (hn : pc + 1 = n) (hk : L[i]? = some ((j : Nat), .int x)) (k : Y X N k0 n0 I J Rf n L (.int x :: S)) : Y X N k0 n0 I J Rf pc L S := by
  subst hn; intro H locs ls hz hP hD hS hl; exact lv_iload_n C.x C.b hd rfl (lv_at hl i hk) (k H locs ls hz hP hD hS hl)
theorem y_icmp_ge (C : Cx X own cc d) {x y : Int32} {off : Int} {tgt : Nat} (hd : decode cc pc = .ok (.if_icmp .ge off, 3)) (ht : (pc : Int) + off = (tgt : Int)) (hn : pc + 3 = n) (kt : y ≤ x → Y X N k0 n0 I J Rf tgt L S) (kf : ¬ y ≤ x → Y X N k0 n0 I J Rf n L S) : Y X N k0 n0 I J Rf pc L (.int y :: .int x :: S) := by
  subst hn; intro H locs ls hz hP hD hS hl; exact lv_icmp_ge C.x C.b hd ht (fun h => kt h H locs ls hz hP hD hS hl) (fun h => kf h H locs ls hz hP hD hS hl)
theorem y_iinc (C : Cx X own cc d) {j : Nat} {b : Int} {x v : Int32} {L' : List (Nat × Value)} (i : Nat) (hd : decode cc pc = .ok (.iinc j b, 3)) (hn : pc + 3 = n) (hk : L[i]? = some (j, .int x)) (hv : x + Int32.ofInt b = v) (hb : j < xnL X) (hL : lput j (.int v) L = L') (k : Y X N k0 n0 I J Rf n L' S) : Y X N k0 n0 I J Rf pc L S := by
  subst hn; intro H locs ls hz hP hD hS hl; exact lv_iinc C.x C.b hd hl hk hv hb hL (fun ls' hl' => k H locs ls' hz hP hD hS hl')
theorem y_goto (C : Cx X own cc d) {off : Int} (hd : decode cc pc = .ok (.goto off, 3)) (hn : (pc : Int) + off = (n : Int)) (k : Y X N k0 n0 I J Rf n L S) : Y X N k0 n0 I J Rf pc L S := by
  intro H locs ls hz hP hD hS hl; exact lv_goto C.x C.b hd hn (k H locs ls hz hP hD hS hl)
theorem y_obj (C : Cx X own cc d) (K : Kx X) {idx a : Nat} (hd : decode cc pc = .ok (.invokespecial idx, 3)) (hn : pc + 3 = n) (hm : Cond.methodLink own idx objectInit ∈ gW) (h1 : 1 ≤ d) (hw : ((S.map fun (v : Value) => v.category).sum).ble 8 = true) (k : Y X N k0 n0 I J Rf n L S) : Y X N k0 n0 I J Rf pc L (.ref a :: S) := by
  subst hn
  intro H locs ls hz hP hD hS hl
  have h2 := C.rm
  exact W.objInit C.x C.b C.own (C.ts _ hm) (C.ts _ kI_objectInit) (C.ts _ kC_objectInit) rfl (by rw [C.ml]; exact hl.1) rfl hd (by omega) (by have h3 : 2 * (F0 (xm X) pc ls (Value.ref a :: S)).monitorRoom + (S.map fun (v : Value) => v.category).sum ≤ 8 := lv_room (Nat.le_of_ble_eq_true hw); omega) (k H locs ls hz hP hD hS hl)
theorem y_putf (C : Cx X own cc d) (K : Kx X) (hin : (xmeth X).name = "<init>") {idx ci k p nn : Nat} {ty : FieldType} {fin : Bool} {v : Value} {I' : KI} {J' : KJ} {Rf' : KR} (hF : Fk own idx ci k ty fin) (hlk : ∀ (Cn : String) (T : u_T) (M : Nat), vwCl[ci]? = some (Cn, T, M) → (T k).1 = own ∧ Cond.fieldLink own idx (T k).1 (T k).2.1 (T k).2.2.1 ∈ gW) (hd : decode cc pc = .ok (.putfield idx, 3)) (hn : pc + 3 = n) (hs : sh p = (ci, nn)) (hp : p < N) (hv : narrow ty v = v) (hfit : fits ty v = true)
    (he : fldv (xad X) I' J' Rf' p k (kt ty) = v) (ho : ∀ j u, j ≠ k → fldv (xad X) I' J' Rf' p j u = fldv (xad X) I J Rf p j u) (hq : ∀ q, q ≠ p → cellE (xcy X) (xad X) I' J' Rf' q = cellE (xcy X) (xad X) I J Rf q)
    (kk : Y X N k0 n0 I' J' Rf' n L S) : Y X N k0 n0 I J Rf pc L (v :: .ref (xad X p) :: S) := by
  subst hn
  obtain ⟨Cn, T, M, ty0, h1, h2, h3, -, h5, h6, h7, h8, h8b, h9⟩ := hF
  obtain ⟨e1, e2⟩ := hlk Cn T M h1
  intro H locs ls hz hP hD hS hl
  have hlen : k < (flds (xad X) I J Rf p ci).length := by rw [flds_len]; exact (List.getElem?_eq_some_iff.mp h9).1
  have e : (wsO (xcy X) (xad X) N I J Rf).set p (xad X p, .inr (ci, (flds (xad X) I J Rf p ci).set k v)) = wsO (xcy X) (xad X) N I' J' Rf' := by
    refine wsO_set hp ?_ hq
    rw [cell_obj hs h5, flds_set h9 he ho]
  have hg : (wsO (xcy X) (xad X) N I J Rf)[p]? = some (xad X p, .inr (ci, flds (xad X) I J Rf p ci)) := wsO_get hp |>.trans (by rw [cell_obj hs h5])
  obtain ⟨r, hr0, cell, q1, q2, q3, q4⟩ := hP p _ hg
  have hr : r = (Cn, T, M) := Option.some.inj (hr0.symm.trans h1)
  subst hr
  have hap := va_apart (own := own) C.ts h3 ty0 h7 h8 K.1 h1
  obtain ⟨hSl, hfc, kC, hkC, hkind⟩ := K.1.1 ci _ h1
  obtain ⟨cf, kf, fi, f, hi, hsl⟩ := hSl k h2
  have hlay := C.ts _ (h3 _ (u_in_lay h2))
  unfold u_lay at hlay
  have hst := (u_facts hfc hkC (u_lays C.ts h3 h2) hi).1
  have hty := (h7 k h2).trans (by rw [h8b])
  have fini : ∀ (H' : Heap), H'[xad X p]? = some (cell.setSlot (xD X |>.2 ci k) v) → H'.size = H.size → (∀ q, q ≠ xad X p → H'[q]? = H[q]?) → ∀ locs1 : List Loc, va_S (xA X) (xs X).heap H' locs1 → W (xp X) (xl X) (xe X) (xRm X) (xs X) (xm X) (xa X) (xbelow X) (xmeth X) (xc X) H' locs1 k0 n0 (xQ X) (F0 (xm X) (pc + 3) ls S) := fun H' e1 e2 e3 locs1 hS1 => by
    have hP1 : va_P (xD X) vwCl ((wsO (xcy X) (xad X) N I J Rf).set p (xad X p, .inr (ci, (flds (xad X) I J Rf p ci).set k v))) H' := hP.set hD hg ⟨_, h1, t_OB.to (V := updV (vp_V (flds (xad X) I J Rf p ci)) k v) ⟨_, e1, q2, q3, t_set q4 hap h2 v⟩ (fun j _ => vp_updV_set hlen v j)⟩ e3
    have hD1 := hD.set (e := .inr (ci, (flds (xad X) I J Rf p ci).set k v)) hg
    rw [e] at hP1 hD1
    exact kk H' locs1 ls (by rw [e2]; exact hz) hP1 hD1 hS1 hl
  cases fin with
  | false =>
    rw [if_neg (by rw [h6]; decide)] at hlay
    have g6 := u_store hfc hkC hkind hlay hi hty hv hfit
    refine W.putK C.x C.b (f := f) ⟨C.own, C.ts _ e2, ⟨_, _, _, hi⟩, hst⟩ (by rw [q2]; exact g6) q1 q3 (by rw [hsl]; exact k2_hasslot (q4 k h2)) rfl rfl hd fun H' e1 e2 e3 => ?_
    rw [hsl] at e1 ⊢
    exact fini H' e1 e2 e3 _ (hS.put e2 e3 (hD.2 p _ hg))
  | true =>
    rw [if_pos h6] at hlay
    have hcf : (xm X).cls = cf := by
      obtain ⟨_, _, c', _, _, _, -, -, hf', -, -, -, hown2, -⟩ := Cond.laysFinal_spec hlay
      have e1c : c' = cf := by have := hi.symm.trans hf'; simp at this; exact this.1.symm
      rw [e1] at hown2
      rw [← e1c]; exact Option.some.inj (C.own.symm.trans hown2)
    have g6 := u_fits hfc hkC hkind (Or.inr hlay) hi hty hv hfit
    refine W.putFinK C.x C.b C.own (C.ts _ e2) hi hst hcf hin (by rw [q2]; exact g6) q1 q3 (by rw [hsl]; exact k2_hasslot (q4 k h2)) rfl rfl hd fun H' e1 e2 e3 => ?_
    rw [hsl] at e1 ⊢
    exact fini H' e1 e2 e3 _ (hS.put e2 e3 (hD.2 p _ hg))
theorem y_putI (C : Cx X own cc d) (K : Kx X) (hin : (xmeth X).name = "<init>") {idx ci k p nn : Nat} {fin : Bool} {v : Int32} (hF : Fk own idx ci k .int fin) (hlk : ∀ (Cn : String) (T : u_T) (M : Nat), vwCl[ci]? = some (Cn, T, M) → (T k).1 = own ∧ Cond.fieldLink own idx (T k).1 (T k).2.1 (T k).2.2.1 ∈ gW) (hd : decode cc pc = .ok (.putfield idx, 3)) (hn : pc + 3 = n) (hs : sh p = (ci, nn)) (hp : p < N) (kk : Y X N k0 n0 (upI I p k v) J Rf n L S) : Y X N k0 n0 I J Rf pc L (.int v :: .ref (xad X p) :: S) :=
  y_putf C K hin hF hlk hd hn hs hp rfl rfl (by show Value.int (upI I p k v p k) = _; rw [upI_same]) (fun j u h => fldv_I h) (fun q h => cellE_I h) kk
theorem y_putB (C : Cx X own cc d) (K : Kx X) (hin : (xmeth X).name = "<init>") {idx ci k p nn : Nat} {fin : Bool} {v : Int32} (hF : Fk own idx ci k .boolean fin) (hlk : ∀ (Cn : String) (T : u_T) (M : Nat), vwCl[ci]? = some (Cn, T, M) → (T k).1 = own ∧ Cond.fieldLink own idx (T k).1 (T k).2.1 (T k).2.2.1 ∈ gW) (hd : decode cc pc = .ok (.putfield idx, 3)) (hn : pc + 3 = n) (hs : sh p = (ci, nn)) (hp : p < N) (hv : v = 0 ∨ v = 1) (kk : Y X N k0 n0 (upI I p k v) J Rf n L S) : Y X N k0 n0 I J Rf pc L (.int v :: .ref (xad X p) :: S) :=
  y_putf C K hin hF hlk hd hn hs hp (by rcases hv with rfl | rfl <;> rfl) (by rcases hv with rfl | rfl <;> rfl) (by show Value.int (upI I p k v p k) = _; rw [upI_same]) (fun j u h => fldv_I h) (fun q h => cellE_I h) kk
theorem y_putJ (C : Cx X own cc d) (K : Kx X) (hin : (xmeth X).name = "<init>") {idx ci k p nn : Nat} {fin : Bool} {v : Int64} (hF : Fk own idx ci k .long fin) (hlk : ∀ (Cn : String) (T : u_T) (M : Nat), vwCl[ci]? = some (Cn, T, M) → (T k).1 = own ∧ Cond.fieldLink own idx (T k).1 (T k).2.1 (T k).2.2.1 ∈ gW) (hd : decode cc pc = .ok (.putfield idx, 3)) (hn : pc + 3 = n) (hs : sh p = (ci, nn)) (hp : p < N) (kk : Y X N k0 n0 I (upJ J p k v) Rf n L S) : Y X N k0 n0 I J Rf pc L (.long v :: .ref (xad X p) :: S) :=
  y_putf C K hin hF hlk hd hn hs hp rfl rfl (by show Value.long (upJ J p k v p k) = _; rw [upJ_same]) (fun j u h => fldv_J h) (fun q h => cellE_J h) kk
theorem y_putR (C : Cx X own cc d) (K : Kx X) (hin : (xmeth X).name = "<init>") {idx ci k p nn q : Nat} {fin : Bool} {ty : FieldType} (hF : Fk own idx ci k ty fin) (hlk : ∀ (Cn : String) (T : u_T) (M : Nat), vwCl[ci]? = some (Cn, T, M) → (T k).1 = own ∧ Cond.fieldLink own idx (T k).1 (T k).2.1 (T k).2.2.1 ∈ gW) (hd : decode cc pc = .ok (.putfield idx, 3)) (hn : pc + 3 = n) (hk : kt ty = 2) (hnr : ∀ a : Nat, narrow ty (.ref a) = .ref a ∧ fits ty (.ref a) = true) (hs : sh p = (ci, nn)) (hp : p < N) (kk : Y X N k0 n0 I J (upR Rf p k (some q)) n L S) : Y X N k0 n0 I J Rf pc L (.ref (xad X q) :: .ref (xad X p) :: S) :=
  y_putf C K hin hF hlk hd hn hs hp (hnr _).1 (hnr _).2 (by rw [hk]; show va_rf ((upR Rf p k (some q) p k).map _) = _; rw [upR_same]; rfl) (fun j u h => fldv_R h) (fun q h => cellE_R h) kk
theorem y_new (C : Cx X own cc d) (K : Kx X) (G : Gx X) {idx ci nn : Nat} {cn : String} {T : u_T} {M : Nat} (ty0 : Nat → FieldType) (hc : vwCl[ci]? = some (cn, T, M)) (hin : ∀ w ∈ u_ws cn T M, w ∈ gW) (hty : ∀ k, k < M → parseFieldDescriptor (T k).2.2.1 = some (ty0 k)) (hcl : Cond.classLink own idx cn ∈ gW) (hinst : Cond.instantiable cn M ∈ gW) (hini : Cond.initialized cn ∈ gW) (hd : decode cc pc = .ok (.new idx, 3)) (hn : pc + 3 = n) (hs : sh N = (ci, nn)) (hc11 : ci < 11) (hdef : ∀ j, j < M → defaultValue (ty0 j) = vp_V (flds (xad X) I J Rf N ci) j) (hkc : k0 + 1 ≤ (xRm X).cells) (hks : n0 + M ≤ (xRm X).slots) (kk : Y X (N + 1) (k0 + 1) (n0 + M) I J Rf n L (.ref (xad X N) :: S)) : Y X N k0 n0 I J Rf pc L S := by
  subst hn
  intro H locs ls hz hP hD hS hl
  have hKn := K.1.1 ci _ hc
  refine W.newcK C.x C.b C.own (C.ts _ hcl) (C.ts _ hinst) (C.ts _ hini) rfl hd hkc hks hKn.2.1 rfl fun H1 kC hkC e1 z1 o1 => ?_
  have hk : ∀ (k : Nat) (x : Nat × va_E), (wsO (xcy X) (xad X) N I J Rf)[k]? = some x → H1[x.1]? = H[x.1]? := fun k x hx => o1 x.1 ((hP k x hx).lt)
  have e : wsO (xcy X) (xad X) (N + 1) I J Rf = wsO (xcy X) (xad X) N I J Rf ++ [(H.size, .inr (ci, flds (xad X) I J Rf N ci))] := by rw [wsO_1, cell_obj hs hc11, hz]
  rw [hz]
  refine kk H1 locs ls (by rw [z1, hz, G]) ?_ ?_ ⟨Nat.le_trans hS.1 (by omega), fun x h1 h2 => (o1 x (Nat.lt_of_lt_of_le h1 hS.1)).trans (hS.2.1 x h1 h2), hS.2.2⟩ hl
  · rw [e]
    refine (hP.kept hk).app (fun k x hx => ?_)
    have hz1 : k < 1 := (List.getElem?_eq_some_iff.mp hx).1
    rw [show k = 0 by omega] at hx
    cases hx
    exact ⟨_, hc, (u_born ty0 C.ts hin hKn hkC e1 hty).to hdef⟩
  · rw [e]; exact hD.push hP rfl (C.hA _ hS.1)
theorem y_arr (C : Cx X own cc d) (K : Kx X) (G : Gx X) {at0 : ArrayType} {t0 : Nat} {a0 : vp_A} {ty : FieldType} {nn : Nat} {c : Int32} (hty : newarray.typeOf at0 = ty) (hw : Cond.arrayClass ty ∈ gW) (hd : decode cc pc = .ok (.newarray at0, 2)) (hn : pc + 2 = n) (ht0 : ∀ cy : Nat → ClassId, (tysO cy)[t0]? = some (cy t0, ty)) (hra : ∀ (U : State) (cA : ClassId), va_RA U cA ty → U.vm.findClass ("[" ++ ty.toString) = some cA) (hc : c = nI nn) (hb : nn * componentBytes ty ≤ 536870912 ∧ nn < 2 ^ 31) (hcell : cellE (xcy X) (xad X) I J Rf N = .inl (xcy X t0, a0)) (ha : ∀ cA : ClassId, vp_cell cA a0 = arrV cA nn (fun _ => defaultValue ty)) (hkc : k0 + 1 ≤ (xRm X).cells) (hks : n0 + nn ≤ (xRm X).slots) (kk : Y X (N + 1) (k0 + 1) (n0 + nn) I J Rf n L (.ref (xad X N) :: S)) : Y X N k0 n0 I J Rf pc L (.int c :: S) := by
  subst hn; subst hty; subst hc
  intro H locs ls hz hP hD hS hl
  refine va_newaK C.x C.b (C.ts _ hw) rfl hd rfl (fun q => by rw [fa_lt, nI_toInt hb.2] at q; simp only [Int32.reduceToInt] at q; omega) (nI_clamp hb.2) hb.1 hkc hks rfl fun H1 cA e1 z1 o1 hAr hNm => ?_
  have hk : ∀ (k : Nat) (x : Nat × va_E), (wsO (xcy X) (xad X) N I J Rf)[k]? = some x → H1[x.1]? = H[x.1]? := fun k x hx => o1 x.1 ((hP k x hx).lt)
  have ecA : cA = xcy X t0 := Option.some.inj (hNm.symm.trans (hra _ _ (K.1.2 t0 _ (ht0 _)).2))
  have e : wsO (xcy X) (xad X) (N + 1) I J Rf = wsO (xcy X) (xad X) N I J Rf ++ [(H.size, .inl (cA, a0))] := by rw [wsO_1, hcell, hz, ecA]
  rw [hz]
  refine kk H1 locs ls (by rw [z1, hz, G]) ?_ ?_ ⟨Nat.le_trans hS.1 (by omega), fun x h1 h2 => (o1 x (Nat.lt_of_lt_of_le h1 hS.1)).trans (hS.2.1 x h1 h2), hS.2.2⟩ hl
  · rw [e]
    refine (hP.kept hk).app (fun k x hx => ?_)
    have hz1 : k < 1 := (List.getElem?_eq_some_iff.mp hx).1
    rw [show k = 0 by omega] at hx
    cases hx
    show H1[H.size]? = some (vp_cell _ _)
    rw [ha]
    exact e1
  · rw [e]; exact hD.push hP rfl (C.hA _ hS.1)
end GROW
