/-! ===== fields and arrays over X ===== -/
def up2 {α : Type} (f : Nat → Nat → α) (a k : Nat) (x : α) : Nat → Nat → α := fun b j => if b = a ∧ j = k then x else f b j
theorem up2_s {α : Type} {f : Nat → Nat → α} {a k : Nat} {x : α} : up2 f a k x a k = x := if_pos ⟨rfl, rfl⟩
theorem up2_a {α : Type} {f : Nat → Nat → α} {a k b j : Nat} {x : α} (h : b ≠ a) : up2 f a k x b j = f b j := if_neg (fun q => h q.1)
theorem up2_k {α : Type} {f : Nat → Nat → α} {a k b j : Nat} {x : α} (h : j ≠ k) : up2 f a k x b j = f b j := if_neg (fun q => h q.2)
theorem up2_row {α : Type} {f : Nat → Nat → α} {a k b : Nat} {x : α} (h : b ≠ a) : up2 f a k x b = f b := funext fun _ => up2_a h
theorem up2_own {α : Type} {f : Nat → Nat → α} {a k : Nat} {x : α} : up2 f a k x a = fun j => if j = k then x else f a j := by
  funext j
  by_cases h : j = k
  · simp [up2, h]
  · simp [up2, h]
theorem xok.lt {g : xG} (h : xok g) {a t z : Nat} (hs : g.2.1 a = (t, z)) (ht : t < 6) : a < g.1 := by
  rcases Nat.lt_or_ge a g.1 with q | q
  · exact q
  · have := h a q
    rw [hs] at this
    exact absurd ht (by omega)
section XH
variable {dA ad : Nat → Nat} {g : xG} {I I' : xI} {R R' : xR} {L L' : xL} {a : Nat}
theorem xw_at (h : a < g.1) : (xw dA ad g I R L)[a]? = some (ad a, xcellOf dA ad I R L a (g.2.1 a)) := by simp [xw, h]
theorem xfield_eq {ci : Nat} (hI : I' a = I a) (hR : R' a = R a) : xfield ad I' R' ci a = xfield ad I R ci a := by
  funext k
  unfold xfield
  rw [hI, hR]
theorem xcell_eq {q : Nat × Nat} (hI : I' a = I a) (hR : R' a = R a) (hL : L' a = L a) : xcellOf dA ad I' R' L' a q = xcellOf dA ad I R L a q := by
  unfold xcellOf
  rw [hI, hR, hL, xfield_eq (ad := ad) (ci := q.2) hI hR]
theorem xw_set {E : va_E} (ha : a < g.1) (hE : E = xcellOf dA ad I' R' L' a (g.2.1 a)) (ho : ∀ b, b ≠ a → I' b = I b ∧ R' b = R b ∧ L' b = L b) : (xw dA ad g I R L).set a (ad a, E) = xw dA ad g I' R' L' := by
  apply List.ext_getElem?
  intro j
  by_cases hj : j = a
  · subst hj
    rw [List.getElem?_set_self (by simp [xw, ha]), xw_at ha, hE]
  · rw [List.getElem?_set_ne (fun q => hj q.symm)]
    by_cases hl : j < g.1
    · obtain ⟨h1, h2, h3⟩ := ho j hj
      rw [xw_at hl, xw_at hl, xcell_eq h1 h2 h3]
    · simp [xw, hl]
theorem xfields_at {ci k : Nat} (hk : k < xN ci) : ((List.range (xN ci)).map (xfield ad I R ci a))[k]? = some (xfield ad I R ci a k) := by simp [hk]
theorem xfields_set {ci k : Nat} {v : Value} (hk : k < xN ci) (hv : v = xfield ad I' R' ci a k) (ho : ∀ j, j ≠ k → I' a j = I a j ∧ R' a j = R a j) : ((List.range (xN ci)).map (xfield ad I R ci a)).set k v = (List.range (xN ci)).map (xfield ad I' R' ci a) := by
  apply List.ext_getElem?
  intro j
  by_cases hj : j = k
  · subst hj
    rw [List.getElem?_set_self (by simp [hk]), xfields_at hk, hv]
  · rw [List.getElem?_set_ne (fun q => hj q.symm)]
    by_cases hl : j < xN ci
    · obtain ⟨h1, h2⟩ := ho j hj
      rw [xfields_at hl, xfields_at hl]
      unfold xfield
      rw [h1, h2]
    · simp [hl]
end XH
/-- a field's entry in a class's table of constants: the k-th of class ci -/
def xFld (own : String) (idx ci k : Nat) (fin : Bool) : Prop := ∃ (C : String) (Tt : u_T) (ty : Nat → FieldType), vwCl[ci]? = some (C, Tt, xN ci) ∧ k < xN ci ∧ (∀ w ∈ u_ws C Tt (xN ci), w ∈ wsL_law) ∧ Cond.fieldLink own idx (Tt k).1 (Tt k).2.1 (Tt k).2.2.1 ∈ wsL_law ∧
  (∀ j, j < xN ci → parseFieldDescriptor (Tt j).2.2.1 = some (ty j)) ∧ (∀ a, a < xN ci → ∀ b, b < xN ci → a ≠ b → (Tt a).2.1 ≠ (Tt b).2.1) ∧ (Tt k).2.2.2 = fin ∧ (Tt k).1 = C ∧ (xRef ci k = true → (∃ n, ty k = .object n) ∨ ∃ t, ty k = .array t) ∧ (xRef ci k = false → ty k = .int ∨ ty k = .boolean)
def xBit (ci k : Nat) : Bool := (ci == 9 && k == 3) || (ci == 10 && k == 44)
section XROWS2
variable {T : xT} {Y : xY} {d CM SM : Nat} {P : xPost} {pc : Nat} {lv : List (Nat × Value)} {st : List Value} {g : xG} {I : xI} {R : xR} {L : xL}
theorem x_get {idx ci k r : Nat} {fin : Bool} (hd : decode Y.2.1 pc = .ok (.getfield idx, 3)) (hf : xFld Y.1.cls idx ci k fin) (hs : g.2.1 r = (0, ci)) (hn : xRef ci k = false) (K : X T Y d CM SM P (pc + 3) lv (.int (I r k) :: st) g I R L) : X T Y d CM SM P pc lv (.ref r :: st) g I R L := by
  intro p l e Rm s m args below meth c Q dC dI dA ad adV A H locs ls C hl hr hx
  obtain ⟨hP, hD, hS, hk⟩ := hr
  obtain ⟨c1, c2, c3, c4, c5, -⟩ := id C
  obtain ⟨Cn, Tt, ty, f1, f2, f3, f4, f5, f6, f7, f8, -⟩ := hf
  have hat := xw_at (dA := dA) (ad := ad) (I := I) (R := R) (L := L) (hk.lt hs (by omega))
  rw [hs] at hat
  refine va_get (D := (dC, dI)) (v := .int (I r k)) c1 c2 c4 f3 c3 c5 hP r hat f1 k f2 (c4 _ f4) (fun _ h => h) ((xfields_at f2).trans ?_) hd (K p l e Rm s m args below meth c Q dC dI dA ad adV A H locs ls C hl ⟨hP, hD, hS, hk⟩ hx)
  unfold xfield
  rw [hn]
theorem x_getr {idx ci k r v : Nat} {fin : Bool} (hd : decode Y.2.1 pc = .ok (.getfield idx, 3)) (hf : xFld Y.1.cls idx ci k fin) (hs : g.2.1 r = (0, ci)) (hn : xRef ci k = true) (hv : R r k = some v) (K : X T Y d CM SM P (pc + 3) lv (.ref v :: st) g I R L) : X T Y d CM SM P pc lv (.ref r :: st) g I R L := by
  intro p l e Rm s m args below meth c Q dC dI dA ad adV A H locs ls C hl hr hx
  obtain ⟨hP, hD, hS, hk⟩ := hr
  obtain ⟨c1, c2, c3, c4, c5, -⟩ := id C
  obtain ⟨Cn, Tt, ty, f1, f2, f3, f4, f5, f6, f7, f8, -⟩ := hf
  have hat := xw_at (dA := dA) (ad := ad) (I := I) (R := R) (L := L) (hk.lt hs (by omega))
  rw [hs] at hat
  refine va_get (D := (dC, dI)) (v := .ref (ad v)) c1 c2 c4 f3 c3 c5 hP r hat f1 k f2 (c4 _ f4) (fun _ h => h) ((xfields_at f2).trans ?_) hd (K p l e Rm s m args below meth c Q dC dI dA ad adV A H locs ls C hl ⟨hP, hD, hS, hk⟩ hx)
  unfold xfield
  rw [hn, hv]
  rfl
theorem x_getN {idx ci k r : Nat} {fin : Bool} (hd : decode Y.2.1 pc = .ok (.getfield idx, 3)) (hf : xFld Y.1.cls idx ci k fin) (hs : g.2.1 r = (0, ci)) (hn : xRef ci k = true) (hv : R r k = none) (K : X T Y d CM SM P (pc + 3) lv (.null :: st) g I R L) : X T Y d CM SM P pc lv (.ref r :: st) g I R L := by
  intro p l e Rm s m args below meth c Q dC dI dA ad adV A H locs ls C hl hr hx
  obtain ⟨hP, hD, hS, hk⟩ := hr
  obtain ⟨c1, c2, c3, c4, c5, -⟩ := id C
  obtain ⟨Cn, Tt, ty, f1, f2, f3, f4, f5, f6, f7, f8, -⟩ := hf
  have hat := xw_at (dA := dA) (ad := ad) (I := I) (R := R) (L := L) (hk.lt hs (by omega))
  rw [hs] at hat
  refine va_get (D := (dC, dI)) (v := .null) c1 c2 c4 f3 c3 c5 hP r hat f1 k f2 (c4 _ f4) (fun _ h => h) ((xfields_at f2).trans ?_) hd (K p l e Rm s m args below meth c Q dC dI dA ad adV A H locs ls C hl ⟨hP, hD, hS, hk⟩ hx)
  unfold xfield
  rw [hn, hv]
  rfl
theorem xput_I {dA ad : Nat → Nat} {a ci k : Nat} {x : Int32} (hk : xok g) (hs : g.2.1 a = (0, ci)) (hkn : k < xN ci) (hn : xRef ci k = false) : (xw dA ad g I R L).set a (ad a, .inr (ci, ((List.range (xN ci)).map (xfield ad I R ci a)).set k (.int x))) = xw dA ad g (up2 I a k x) R L := by
  refine xw_set (hk.lt hs (by omega)) ?_ (fun b hb => ⟨up2_row hb, rfl, rfl⟩)
  rw [hs]
  show (Sum.inr (ci, _) : va_E) = Sum.inr (ci, _)
  rw [xfields_set (I' := up2 I a k x) (R' := R) hkn (by unfold xfield; rw [hn, up2_s]) (fun j hj => ⟨up2_k hj, rfl⟩)]
theorem xput_R {dA ad : Nat → Nat} {a ci k : Nat} {x : Option Nat} (hk : xok g) (hs : g.2.1 a = (0, ci)) (hkn : k < xN ci) (hn : xRef ci k = true) : (xw dA ad g I R L).set a (ad a, .inr (ci, ((List.range (xN ci)).map (xfield ad I R ci a)).set k (va_rf (x.map ad)))) = xw dA ad g I (up2 R a k x) L := by
  refine xw_set (hk.lt hs (by omega)) ?_ (fun b hb => ⟨rfl, up2_row hb, rfl⟩)
  rw [hs]
  show (Sum.inr (ci, _) : va_E) = Sum.inr (ci, _)
  rw [xfields_set (I' := I) (R' := up2 R a k x) hkn (by unfold xfield; rw [hn, up2_s]) (fun j hj => ⟨rfl, up2_k hj⟩)]
theorem xbit_ok {ty : FieldType} {b : Bool} {x : Int32} (h : ty = .int ∨ ty = .boolean) (h1 : ty = .int ∨ x = 0 ∨ x = 1) : narrow ty (.int x) = .int x ∧ fits ty (.int x) = true := by
  rcases h1 with rfl | rfl | rfl
  · exact ⟨rfl, rfl⟩
  · rcases h with rfl | rfl
    · exact ⟨rfl, rfl⟩
    · exact ⟨by decide, by decide⟩
  · rcases h with rfl | rfl
    · exact ⟨rfl, rfl⟩
    · exact ⟨by decide, by decide⟩
/-- an int field that isn't final; a boolean's value is 0 or 1 -/
theorem x_put {idx ci k r : Nat} {x : Int32} (hd : decode Y.2.1 pc = .ok (.putfield idx, 3)) (hf : xFld Y.1.cls idx ci k false) (hs : g.2.1 r = (0, ci)) (hn : xRef ci k = false) (hb : parseFieldDescriptor (((vwCl[ci]?).map (fun q => (q.2.1 k).2.2.1)).getD "") = some .int ∨ x = 0 ∨ x = 1)
    (K : X T Y d CM SM P (pc + 3) lv st g (up2 I r k x) R L) : X T Y d CM SM P pc lv (.int x :: .ref r :: st) g I R L := by
  intro p l e Rm s m args below meth c Q dC dI dA ad adV A H locs ls C hl hr hx
  obtain ⟨hP, hD, hS, hk⟩ := hr
  obtain ⟨c1, c2, c3, c4, c5, -⟩ := id C
  obtain ⟨Cn, Tt, ty, f1, f2, f3, f4, f5, f6, f7, f8, f9, f10⟩ := hf
  have hat := xw_at (dA := dA) (ad := ad) (I := I) (R := R) (L := L) (hk.lt hs (by omega))
  rw [hs] at hat
  rw [f1] at hb
  have hb' : ty k = .int ∨ x = 0 ∨ x = 1 := hb.imp (fun q => Option.some.inj ((f5 k f2).symm.trans q)) id
  have hz := xbit_ok (b := true) (f10 hn) hb'
  refine va_put (D := (dC, dI)) (v := .int x) (ty := ty k) c1 c2 c4 f3 ty f5 f6 c3 c5 hP hD hS r hat f1 k f2 (c4 _ f4) (fun _ h => h) f7 (f5 k f2) hz.1 hz.2 (by simp [f2]) hd (fun H1 locs1 hP1 hD1 hS1 => ?_)
  rw [xput_I hk hs f2 hn] at hP1 hD1
  exact K p l e Rm s m args below meth c Q dC dI dA ad adV A H1 locs1 ls C hl ⟨hP1, hD1, hS1, hk⟩ hx
theorem xref_ok {ty : FieldType} {ad : Nat → Nat} {x : Option Nat} (h : (∃ n, ty = .object n) ∨ ∃ t, ty = .array t) : narrow ty (va_rf (x.map ad)) = va_rf (x.map ad) ∧ fits ty (va_rf (x.map ad)) = true := by
  cases x <;> (rcases h with ⟨n, rfl⟩ | ⟨t, rfl⟩ <;> exact ⟨rfl, rfl⟩)
/-- a reference field that isn't final -/
theorem x_putr {idx ci k r v : Nat} (hd : decode Y.2.1 pc = .ok (.putfield idx, 3)) (hf : xFld Y.1.cls idx ci k false) (hs : g.2.1 r = (0, ci)) (hn : xRef ci k = true)
    (K : X T Y d CM SM P (pc + 3) lv st g I (up2 R r k (some v)) L) : X T Y d CM SM P pc lv (.ref v :: .ref r :: st) g I R L := by
  intro p l e Rm s m args below meth c Q dC dI dA ad adV A H locs ls C hl hr hx
  obtain ⟨hP, hD, hS, hk⟩ := hr
  obtain ⟨c1, c2, c3, c4, c5, -⟩ := id C
  obtain ⟨Cn, Tt, ty, f1, f2, f3, f4, f5, f6, f7, f8, f9, f10⟩ := hf
  have hat := xw_at (dA := dA) (ad := ad) (I := I) (R := R) (L := L) (hk.lt hs (by omega))
  rw [hs] at hat
  have hz := xref_ok (ad := ad) (x := some v) (f9 hn)
  refine va_put (D := (dC, dI)) (v := va_rf ((some v).map ad)) (ty := ty k) c1 c2 c4 f3 ty f5 f6 c3 c5 hP hD hS r hat f1 k f2 (c4 _ f4) (fun _ h => h) f7 (f5 k f2) hz.1 hz.2 (by simp [f2]) hd (fun H1 locs1 hP1 hD1 hS1 => ?_)
  rw [xput_R hk hs f2 hn] at hP1 hD1
  exact K p l e Rm s m args below meth c Q dC dI dA ad adV A H1 locs1 ls C hl ⟨hP1, hD1, hS1, hk⟩ hx
theorem x_putNl {idx ci k r : Nat} (hd : decode Y.2.1 pc = .ok (.putfield idx, 3)) (hf : xFld Y.1.cls idx ci k false) (hs : g.2.1 r = (0, ci)) (hn : xRef ci k = true)
    (K : X T Y d CM SM P (pc + 3) lv st g I (up2 R r k none) L) : X T Y d CM SM P pc lv (.null :: .ref r :: st) g I R L := by
  intro p l e Rm s m args below meth c Q dC dI dA ad adV A H locs ls C hl hr hx
  obtain ⟨hP, hD, hS, hk⟩ := hr
  obtain ⟨c1, c2, c3, c4, c5, -⟩ := id C
  obtain ⟨Cn, Tt, ty, f1, f2, f3, f4, f5, f6, f7, f8, f9, f10⟩ := hf
  have hat := xw_at (dA := dA) (ad := ad) (I := I) (R := R) (L := L) (hk.lt hs (by omega))
  rw [hs] at hat
  have hz := xref_ok (ad := ad) (x := none) (f9 hn)
  refine va_put (D := (dC, dI)) (v := va_rf ((none : Option Nat).map ad)) (ty := ty k) c1 c2 c4 f3 ty f5 f6 c3 c5 hP hD hS r hat f1 k f2 (c4 _ f4) (fun _ h => h) f7 (f5 k f2) hz.1 hz.2 (by simp [f2]) hd (fun H1 locs1 hP1 hD1 hS1 => ?_)
  rw [xput_R hk hs f2 hn] at hP1 hD1
  exact K p l e Rm s m args below meth c Q dC dI dA ad adV A H1 locs1 ls C hl ⟨hP1, hD1, hS1, hk⟩ hx
/-- a final reference field, in its constructor -/
theorem x_putrF {idx ci k r v : Nat} (hd : decode Y.2.1 pc = .ok (.putfield idx, 3)) (hf : xFld Y.1.cls idx ci k true) (hi : Y.1.name = "<init>") (ho : (((vwCl[ci]?).map (fun q => q.1)).getD "") = Y.1.cls) (hs : g.2.1 r = (0, ci)) (hn : xRef ci k = true)
    (K : X T Y d CM SM P (pc + 3) lv st g I (up2 R r k (some v)) L) : X T Y d CM SM P pc lv (.ref v :: .ref r :: st) g I R L := by
  intro p l e Rm s m args below meth c Q dC dI dA ad adV A H locs ls C hl hr hx
  obtain ⟨hP, hD, hS, hk⟩ := hr
  obtain ⟨c1, c2, c3, c4, c5, -, -, -, -, -, -, c12⟩ := id C
  obtain ⟨Cn, Tt, ty, f1, f2, f3, f4, f5, f6, f7, f8, f9, f10⟩ := hf
  have hat := xw_at (dA := dA) (ad := ad) (I := I) (R := R) (L := L) (hk.lt hs (by omega))
  rw [hs] at hat
  rw [f1] at ho
  have ho' : (Tt k).1 = Y.1.cls := f8.trans ho
  have hz := xref_ok (ad := ad) (x := some v) (f9 hn)
  refine va_putF (D := (dC, dI)) (v := va_rf ((some v).map ad)) (ty := ty k) c1 c2 c4 f3 ty f5 f6 c3 c5 hP hD hS r hat f1 k f2 (c4 _ f4) (fun _ h => h) f7 (c12 hi) ho' (f5 k f2) hz.1 hz.2 (by simp [f2]) hd (fun H1 locs1 hP1 hD1 hS1 => ?_)
  rw [xput_R hk hs f2 hn] at hP1 hD1
  exact K p l e Rm s m args below meth c Q dC dI dA ad adV A H1 locs1 ls C hl ⟨hP1, hD1, hS1, hk⟩ hx
/-- arrays -/
theorem x_iald {q len : Nat} {i : Int32} (hd : decode Y.2.1 pc = .ok (.iaload, 1)) (hs : g.2.1 q = (1, len)) (hi : vp_in i len) (K : X T Y d CM SM P (pc + 1) lv (.int (I q i.toNatClampNeg) :: st) g I R L) : X T Y d CM SM P pc lv (.int i :: .ref q :: st) g I R L := by
  intro p l e Rm s m args below meth c Q dC dI dA ad adV A H locs ls C hl hr hx
  obtain ⟨hP, hD, hS, hk⟩ := hr
  have hat := xw_at (dA := dA) (ad := ad) (I := I) (R := R) (L := L) (hk.lt hs (by omega))
  rw [hs] at hat
  exact va_iald C.1 C.2.1 C.2.2.2.2.1 hP q 0 hat rfl hi hd (K p l e Rm s m args below meth c Q dC dI dA ad adV A H locs ls C hl ⟨hP, hD, hS, hk⟩ hx)
theorem x_zald {q len : Nat} {i : Int32} (hd : decode Y.2.1 pc = .ok (.baload, 1)) (hs : g.2.1 q = (2, len)) (hi : vp_in i len) (K : X T Y d CM SM P (pc + 1) lv (.int (I q i.toNatClampNeg) :: st) g I R L) : X T Y d CM SM P pc lv (.int i :: .ref q :: st) g I R L := by
  intro p l e Rm s m args below meth c Q dC dI dA ad adV A H locs ls C hl hr hx
  obtain ⟨hP, hD, hS, hk⟩ := hr
  have hat := xw_at (dA := dA) (ad := ad) (I := I) (R := R) (L := L) (hk.lt hs (by omega))
  rw [hs] at hat
  exact va_zald C.1 C.2.1 C.2.2.2.2.1 hP q 1 hat rfl hi hd (K p l e Rm s m args below meth c Q dC dI dA ad adV A H locs ls C hl ⟨hP, hD, hS, hk⟩ hx)
theorem x_lald {q len : Nat} {i : Int32} (hd : decode Y.2.1 pc = .ok (.laload, 1)) (hs : g.2.1 q = (3, len)) (hi : vp_in i len) (K : X T Y d CM SM P (pc + 1) lv (.long (L q i.toNatClampNeg) :: st) g I R L) : X T Y d CM SM P pc lv (.int i :: .ref q :: st) g I R L := by
  intro p l e Rm s m args below meth c Q dC dI dA ad adV A H locs ls C hl hr hx
  obtain ⟨hP, hD, hS, hk⟩ := hr
  have hat := xw_at (dA := dA) (ad := ad) (I := I) (R := R) (L := L) (hk.lt hs (by omega))
  rw [hs] at hat
  exact va_lald C.1 C.2.1 C.2.2.2.2.1 hP q 2 hat rfl hi hd (K p l e Rm s m args below meth c Q dC dI dA ad adV A H locs ls C hl ⟨hP, hD, hS, hk⟩ hx)
theorem xset_I {dA ad : Nat → Nat} {a t len k : Nat} {x : Int32} (hk : xok g) (hs : g.2.1 a = (t, len)) (ht : t = 1 ∨ t = 2) : (xw dA ad g I R L).set a (ad a, .inl (dA (t - 1), len, .inl (upd (I a) k x))) = xw dA ad g (up2 I a k x) R L := by
  refine xw_set (hk.lt hs (by omega)) ?_ (fun b hb => ⟨up2_row hb, rfl, rfl⟩)
  rw [hs]
  have hu : upd (I a) k x = up2 I a k x a := by
    rw [up2_own]
    rfl
  rcases ht with rfl | rfl
  · show (Sum.inl (dA 0, len, _) : va_E) = Sum.inl (dA 0, len, _)
    rw [hu]
  · show (Sum.inl (dA 1, len, _) : va_E) = Sum.inl (dA 1, len, _)
    rw [hu]
theorem x_iast {q len : Nat} {i x : Int32} (hd : decode Y.2.1 pc = .ok (.iastore, 1)) (hs : g.2.1 q = (1, len)) (hi : vp_in i len) (K : X T Y d CM SM P (pc + 1) lv st g (up2 I q i.toNatClampNeg x) R L) : X T Y d CM SM P pc lv (.int x :: .int i :: .ref q :: st) g I R L := by
  intro p l e Rm s m args below meth c Q dC dI dA ad adV A H locs ls C hl hr hx
  obtain ⟨hP, hD, hS, hk⟩ := hr
  have hat := xw_at (dA := dA) (ad := ad) (I := I) (R := R) (L := L) (hk.lt hs (by omega))
  rw [hs] at hat
  refine va_iast C.1 C.2.1 C.2.2.2.2.1 hP hD hS q 0 hat rfl hi hd (fun H1 locs1 hP1 hD1 hS1 => ?_)
  rw [xset_I hk hs (Or.inl rfl)] at hP1 hD1
  exact K p l e Rm s m args below meth c Q dC dI dA ad adV A H1 locs1 ls C hl ⟨hP1, hD1, hS1, hk⟩ hx
theorem x_zast {q len : Nat} {i x : Int32} (hd : decode Y.2.1 pc = .ok (.bastore, 1)) (hs : g.2.1 q = (2, len)) (hi : vp_in i len) (hv : x = 0 ∨ x = 1) (K : X T Y d CM SM P (pc + 1) lv st g (up2 I q i.toNatClampNeg x) R L) : X T Y d CM SM P pc lv (.int x :: .int i :: .ref q :: st) g I R L := by
  intro p l e Rm s m args below meth c Q dC dI dA ad adV A H locs ls C hl hr hx
  obtain ⟨hP, hD, hS, hk⟩ := hr
  have hat := xw_at (dA := dA) (ad := ad) (I := I) (R := R) (L := L) (hk.lt hs (by omega))
  rw [hs] at hat
  refine va_zast C.1 C.2.1 C.2.2.2.2.1 hP hD hS q 1 hat rfl hi hd (fun H1 locs1 hP1 hD1 hS1 => ?_)
  have hz : vp_nar .boolean x = x := by rcases hv with rfl | rfl <;> decide
  rw [hz, xset_I hk hs (Or.inr rfl)] at hP1 hD1
  exact K p l e Rm s m args below meth c Q dC dI dA ad adV A H1 locs1 ls C hl ⟨hP1, hD1, hS1, hk⟩ hx
theorem x_last {q len : Nat} {i : Int32} {x : Int64} (hd : decode Y.2.1 pc = .ok (.lastore, 1)) (hs : g.2.1 q = (3, len)) (hi : vp_in i len) (K : X T Y d CM SM P (pc + 1) lv st g I R (up2 L q i.toNatClampNeg x)) : X T Y d CM SM P pc lv (.long x :: .int i :: .ref q :: st) g I R L := by
  intro p l e Rm s m args below meth c Q dC dI dA ad adV A H locs ls C hl hr hx
  obtain ⟨hP, hD, hS, hk⟩ := hr
  have hat := xw_at (dA := dA) (ad := ad) (I := I) (R := R) (L := L) (hk.lt hs (by omega))
  rw [hs] at hat
  refine va_last C.1 C.2.1 C.2.2.2.2.1 hP hD hS q 2 hat rfl hi hd (fun H1 locs1 hP1 hD1 hS1 => ?_)
  have hu : vp_updL (L q) i.toNatClampNeg x = up2 L q i.toNatClampNeg x q := by
    rw [up2_own]
    rfl
  have he : (xw dA ad g I R L).set q (ad q, .inl (dA 2, len, .inr (.inl (vp_updL (L q) i.toNatClampNeg x)))) = xw dA ad g I R (up2 L q i.toNatClampNeg x) := by
    refine xw_set (hk.lt hs (by omega)) ?_ (fun b hb => ⟨rfl, rfl, up2_row hb⟩)
    rw [hs, hu]
    rfl
  rw [he] at hP1 hD1
  exact K p l e Rm s m args below meth c Q dC dI dA ad adV A H1 locs1 ls C hl ⟨hP1, hD1, hS1, hk⟩ hx
theorem x_alen {q t len : Nat} {v : Int32} (hd : decode Y.2.1 pc = .ok (.arraylength, 1)) (hs : g.2.1 q = (t, len)) (ht : 1 ≤ t ∧ t ≤ 5) (hv : Int32.ofNat len = v) (K : X T Y d CM SM P (pc + 1) lv (.int v :: st) g I R L) : X T Y d CM SM P pc lv (.ref q :: st) g I R L := by
  intro p l e Rm s m args below meth c Q dC dI dA ad adV A H locs ls C hl hr hx
  obtain ⟨hP, hD, hS, hk⟩ := hr
  have hat := xw_at (dA := dA) (ad := ad) (I := I) (R := R) (L := L) (hk.lt hs (by omega))
  rw [hs] at hat
  have key := K p l e Rm s m args below meth c Q dC dI dA ad adV A H locs ls C hl ⟨hP, hD, hS, hk⟩ hx
  obtain ⟨h1, h5⟩ := ht
  have : t = 1 ∨ t = 2 ∨ t = 3 ∨ t = 4 ∨ t = 5 := by omega
  rcases this with rfl | rfl | rfl | rfl | rfl
  · exact va_alen C.1 C.2.1 C.2.2.2.2.1 hP q 0 hat rfl hv hd key
  · exact va_alen C.1 C.2.1 C.2.2.2.2.1 hP q 1 hat rfl hv hd key
  · exact va_alen C.1 C.2.1 C.2.2.2.2.1 hP q 2 hat rfl hv hd key
  · exact va_alen C.1 C.2.1 C.2.2.2.2.1 hP q 3 hat rfl hv hd key
  · exact va_alen C.1 C.2.1 C.2.2.2.2.1 hP q 4 hat rfl hv hd key
theorem x_aald {q t len v : Nat} {i : Int32} (hd : decode Y.2.1 pc = .ok (.aaload, 1)) (hs : g.2.1 q = (t, len)) (ht : t = 4 ∨ t = 5) (hi : vp_in i len) (hv : R q i.toNatClampNeg = some v) (K : X T Y d CM SM P (pc + 1) lv (.ref v :: st) g I R L) : X T Y d CM SM P pc lv (.int i :: .ref q :: st) g I R L := by
  intro p l e Rm s m args below meth c Q dC dI dA ad adV A H locs ls C hl hr hx
  obtain ⟨hP, hD, hS, hk⟩ := hr
  have hat := xw_at (dA := dA) (ad := ad) (I := I) (R := R) (L := L) (hk.lt hs (by omega))
  rw [hs] at hat
  have key : W p l e Rm s m args below meth c H locs g.2.2.1 g.2.2.2 Q (F0 m (pc + 1) ls (va_rf ((R q i.toNatClampNeg).map ad) :: st.map (cV ad))) := by
    rw [hv]
    exact K p l e Rm s m args below meth c Q dC dI dA ad adV A H locs ls C hl ⟨hP, hD, hS, hk⟩ hx
  rcases ht with rfl | rfl
  · exact va_aldq C.1 C.2.1 C.2.2.2.2.1 hP q 3 hat rfl hi hd key
  · exact va_aldq C.1 C.2.1 C.2.2.2.2.1 hP q 4 hat rfl hi hd key
theorem x_aast {q t len v ci : Nat} {i : Int32} (hd : decode Y.2.1 pc = .ok (.aastore, 1)) (hs : g.2.1 q = (t, len)) (hv : g.2.1 v = (0, ci)) (ht : (t = 4 ∧ ci = 4) ∨ (t = 5 ∧ ci = 8)) (hi : vp_in i len) (K : X T Y d CM SM P (pc + 1) lv st g I (up2 R q i.toNatClampNeg (some v)) L) : X T Y d CM SM P pc lv (.ref v :: .int i :: .ref q :: st) g I R L := by
  intro p l e Rm s m args below meth c Q dC dI dA ad adV A H locs ls C hl hr hx
  obtain ⟨hP, hD, hS, hk⟩ := hr
  have hat := xw_at (dA := dA) (ad := ad) (I := I) (R := R) (L := L) (hk.lt hs (by omega))
  have hat2 := xw_at (dA := dA) (ad := ad) (I := I) (R := R) (L := L) (hk.lt hv (by omega))
  rw [hs] at hat
  rw [hv] at hat2
  have hu : va_up (fun k => (R q k).map ad) i.toNatClampNeg (some (ad v)) = fun k => (up2 R q i.toNatClampNeg (some v) q k).map ad := by
    funext k
    by_cases hk2 : k = i.toNatClampNeg
    · subst hk2
      simp [va_up, up2_s]
    · simp [va_up, hk2, up2_k hk2]
  rcases ht with ⟨rfl, rfl⟩ | ⟨rfl, rfl⟩
  · refine va_astq C.1 C.2.1 C.2.2.2.2.1 hP hD hS q 3 v 4 hat rfl hat2 rfl hi hd (fun H1 locs1 hP1 hD1 hS1 => ?_)
    have he : (xw dA ad g I R L).set q (ad q, .inl (dA 3, len, .inr (.inr (.inr (.inr (va_up (fun k => (R q k).map ad) i.toNatClampNeg (some (ad v)))))))) = xw dA ad g I (up2 R q i.toNatClampNeg (some v)) L := by
      refine xw_set (hk.lt hs (by omega)) ?_ (fun b hb => ⟨rfl, up2_row hb, rfl⟩)
      rw [hs, hu]
      rfl
    rw [he] at hP1 hD1
    exact K p l e Rm s m args below meth c Q dC dI dA ad adV A H1 locs1 ls C hl ⟨hP1, hD1, hS1, hk⟩ hx
  · refine va_astq C.1 C.2.1 C.2.2.2.2.1 hP hD hS q 4 v 8 hat rfl hat2 rfl hi hd (fun H1 locs1 hP1 hD1 hS1 => ?_)
    have he : (xw dA ad g I R L).set q (ad q, .inl (dA 4, len, .inr (.inr (.inr (.inr (va_up (fun k => (R q k).map ad) i.toNatClampNeg (some (ad v)))))))) = xw dA ad g I (up2 R q i.toNatClampNeg (some v)) L := by
      refine xw_set (hk.lt hs (by omega)) ?_ (fun b hb => ⟨rfl, up2_row hb, rfl⟩)
      rw [hs, hu]
      rfl
    rw [he] at hP1 hD1
    exact K p l e Rm s m args below meth c Q dC dI dA ad adV A H1 locs1 ls C hl ⟨hP1, hD1, hS1, hk⟩ hx
end XROWS2
