/-! ===== how all is, on the class's side; each method in one form ===== -/
def IMC (I : xI) (R : xR) (o : Option xV) : Prop := match o with
  | none => I 0 3 = 0
  | some U => I 0 3 = 1 ∧ FSC I 19 U ∧ R 19 11 = rgRef U
theorem IMC.keep {I I2 : xI} {R R2 : xR} {o : Option xV} (h : IMC I R o) (h3 : I2 0 3 = I 0 3) (hk : ∀ a, 19 ≤ a → a ≤ 35 → I2 a = I a) (hR : R2 19 11 = R 19 11) : IMC I2 R2 o := by
  cases o with
  | none => exact h3.trans h
  | some U => exact ⟨h3.trans h.1, h.2.1.keep (fun a p q => hk a p (by omega)), hR.trans h.2.2⟩
theorem ACT.keepU {I I2 : xI} {A : List Nat} (h : ACT I 79 A) (hk : ∀ a, 79 ≤ a → a ≤ 81 → I2 a = I a) : ACT I2 79 A := ⟨by rw [hk 79 (by omega) (by omega)]; exact h.1, h.2.keep (hk (79 + 1) (by omega) (by omega)) (hk (79 + 1 + 1) (by omega) (by omega))⟩
/-- the class's state -/
def CST (sh : Nat → Nat × Nat) (I : xI) (R : xR) (L : xL) (V : xV) (rc : Nat) (ars : Nat → xAR) (t : xX) (W : xW) (A : List Nat) (o : Option xV) : Prop := GEO sh R 0 1 19 37 55 66 72 79 137 ∧ FSC I 1 V ∧ cRings I 0 rc ars ∧ R 1 11 = rgRef V ∧ bRow I (55 + 1) t.1 t.2 ∧ TPC I L W ∧ ACT I 79 A ∧ IMC I R o
/-- values that are well formed -/
def VLD (V : xV) (rc : Nat) (t : xX) (W : xW) (A : List Nat) (o : Option xV) (B : Nat) : Prop := SOKV V B rc ∧ XOK t ∧ TOK W ∧ A.length ≤ 20 ∧ ∀ U, o = some U → SOKV U B rc
def CFR (I I2 : xI) (L L2 : xL) : Prop := (∀ a, 137 ≤ a → I2 a = I a) ∧ ∀ a, 137 ≤ a → L2 a = L a
section CSTS
variable {sh : Nat → Nat × Nat} {I I2 : xI} {R R2 : xR} {L L2 : xL} {V V2 : xV} {rc : Nat} {ars : Nat → xAR} {t t2 : xX} {W W2 : xW} {A A2 : List Nat} {o : Option xV}
theorem CST.low (h : CST sh I R L V rc ars t W A o) (hI : ∀ a, a < 137 → I2 a = I a) (hL : ∀ a, a < 137 → L2 a = L a) : CST sh I2 R L2 V rc ars t W A o := by
  obtain ⟨g, h1, h2, h3, h4, h5, h6, h7⟩ := h
  exact ⟨g, h1.keep (fun a _ q => hI a (by omega)), h2.keep (by rw [hI 0 (by omega)]) (fun a _ q => hI a (by omega)), h3, h4.keep (hI _ (by omega)) (hI _ (by omega)), (h5.keep (fun a _ q => hI a q)).keepL (fun a _ q => hL a q), h6.keepU (fun a _ q => hI a (by omega)), h7.keep (by rw [hI 0 (by omega)]) (fun a _ q => hI a (by omega)) rfl⟩
theorem CST.mvN (h : CST sh I R L V rc ars t W A o) (f : FSC I2 1 V2) (e : V2 8 6 = V 8 6) (k : ∀ a, (a < 1 ∨ 19 ≤ a) → I2 a = I a) : CST sh I2 R L V2 rc ars t W A o := by
  obtain ⟨g, h1, h2, h3, h4, h5, h6, h7⟩ := h
  have e2 : rgRef V2 = rgRef V := by unfold rgRef; rw [e]
  exact ⟨g, f, h2.keep (by rw [k 0 (by omega)]) (fun a p q => k a (by omega)), h3.trans e2.symm, h4.keep (k _ (by omega)) (k _ (by omega)), h5.keep (fun a p q => k a (by omega)), h6.keepU (fun a p q => k a (by omega)), h7.keep (by rw [k 0 (by omega)]) (fun a p q => k a (by omega)) rfl⟩
theorem CST.mvT (h : CST sh I R L V rc ars t W A o) (k : ∀ a, (a < 37 ∨ (55 ≤ a ∧ a < 66) ∨ 79 ≤ a) → I2 a = I a) (r : trR 37 R R2) (l : ∀ a, a ≠ 67 → L2 a = L a) : CST sh I2 R2 L2 V rc ars t W A o := by
  obtain ⟨g, h1, h2, h3, h4, h5, h6, h7⟩ := h
  exact ⟨g.keepR (fun a j q => r a j (Or.inr q)), h1.keep (fun a p q => k a (by omega)), h2.keep (by rw [k 0 (by omega)]) (fun a p q => k a (by omega)), (r 1 11 (by omega)).trans h3, h4.keep (k _ (by omega)) (k _ (by omega)), (h5.keep (fun a p q => k a (by omega))).keepL (fun a p q => l a (by omega)), h6.keepU (fun a p q => k a (by omega)), h7.keep (by rw [k 0 (by omega)]) (fun a p q => k a (by omega)) (r 19 11 (by omega))⟩
theorem CST.mvF (h : CST sh I R L V rc ars t W A o) (f : bRow I2 (55 + 1) t2.1 t2.2) (k : ∀ a, (a < 55 ∨ 65 ≤ a) → I2 a = I a) : CST sh I2 R L V rc ars t2 W A o := by
  obtain ⟨g, h1, h2, h3, h4, h5, h6, h7⟩ := h
  exact ⟨g, h1.keep (fun a p q => k a (by omega)), h2.keep (by rw [k 0 (by omega)]) (fun a p q => k a (by omega)), h3, f, h5.keep (fun a p q => k a (by omega)), h6.keepU (fun a p q => k a (by omega)), h7.keep (by rw [k 0 (by omega)]) (fun a p q => k a (by omega)) rfl⟩
theorem CST.mvA (h : CST sh I R L V rc ars t W A o) (f : ACT I2 79 A2) (k : ∀ a, a ≠ 79 → a ≠ 80 → a ≠ 81 → I2 a = I a) : CST sh I2 R L V rc ars t W A2 o := by
  obtain ⟨g, h1, h2, h3, h4, h5, h6, h7⟩ := h
  exact ⟨g, h1.keep (fun a p q => k a (by omega) (by omega) (by omega)), h2.keep (by rw [k 0 (by omega) (by omega) (by omega)]) (fun a p q => k a (by omega) (by omega) (by omega)), h3, h4.keep (k _ (by omega) (by omega) (by omega)) (k _ (by omega) (by omega) (by omega)), h5.keep (fun a p q => k a (by omega) (by omega) (by omega)), f, h7.keep (by rw [k 0 (by omega) (by omega) (by omega)]) (fun a p q => k a (by omega) (by omega) (by omega)) rfl⟩
theorem CST.mvW (h : CST sh I R L V rc ars t W A o) (f : TPC I2 L2 W2) (k : ∀ a, (a < 125 ∨ 137 ≤ a) → I2 a = I a) : CST sh I2 R L2 V rc ars t W2 A o := by
  obtain ⟨g, h1, h2, h3, h4, h5, h6, h7⟩ := h
  exact ⟨g, h1.keep (fun a p q => k a (by omega)), h2.keep (by rw [k 0 (by omega)]) (fun a p q => k a (by omega)), h3, h4.keep (k _ (by omega)) (k _ (by omega)), f, h6.keepU (fun a p q => k a (by omega)), h7.keep (by rw [k 0 (by omega)]) (fun a p q => k a (by omega)) rfl⟩
end CSTS
theorem rgEval.k7 {I I2 : xI} {rg : Nat} {LN : xLN} (h : rgEval I rg LN) (hk : ∀ a, rg ≤ a → a < rg + 7 → I2 a = I a) : rgEval I2 rg LN := by
  revert h
  unfold rgEval
  rw [hk (rg + 1) (by omega) (by omega), hk (rg + 2) (by omega) (by omega), hk (rg + 3) (by omega) (by omega), hk (rg + 4) (by omega) (by omega), hk (rg + 5) (by omega) (by omega), hk (rg + 6) (by omega) (by omega)]
  exact id

theorem s86_beast {V : xV} {x y z w : Int32} : (spBeast V x y z w).2 8 6 = V 8 6 := by
  unfold spBeast
  repeat' split
  all_goals first | rfl | exact up2_k (by decide)

theorem s86_set {V : xV} {x y z : Int32} : (spSet V x y z).2 8 6 = V 8 6 := by
  unfold spSet
  repeat' split
  all_goals first | rfl | exact up2_k (by decide)

theorem s86_enemies0 {V : xV} {x y : Int32} : (spEnem V x y false).2 8 6 = V 8 6 := by
  unfold spEnem
  repeat' split
  all_goals first | rfl | exact up2_k (by decide)

theorem s86_enemies1 {V : xV} {x y : Int32} : (spEnem V x y true).2 8 6 = V 8 6 := by
  unfold spEnem
  repeat' split
  all_goals first | rfl | exact up2_k (by decide)

theorem s86_tamer {V : xV} {x : Int32} : (spTamer V x).2 8 6 = V 8 6 := by
  unfold spTamer
  repeat' split
  all_goals first | rfl | exact up2_k (by decide)

theorem s86_thunder {V : xV} {x : Int32} : (spThunder V x).2 8 6 = V 8 6 := by
  unfold spThunder
  repeat' split
  all_goals first | rfl | exact up2_k (by decide)

theorem s86_walk {V : xV} {x : Int32} : (spCome V 6 12 x).2 8 6 = V 8 6 := by
  unfold spCome
  repeat' split
  all_goals first | rfl | exact up2_k (by decide)

theorem s86_film {V : xV} {x : Int32} : (spCome V 7 10 x).2 8 6 = V 8 6 := by
  unfold spCome
  repeat' split
  all_goals first | rfl | exact up2_k (by decide)

set_option maxHeartbeats 4000000 in
set_option maxRecDepth 100000 in
theorem C_beast {T : xT} {n : Nat} {sh : Nat → Nat × Nat} {I : xI} {R : xR} {L : xL} {P : xPost} {V : xV} {rc : Nat} {ars : Nat → xAR} {t : xX} {W : xW} {A : List Nat} {o : Option xV} {B : Nat} (h : CST sh I R L V rc ars t W A o) (v : VLD V rc t W A o B) (hB : B < 800000) {x y z w : Int32} (K : ∀ (I2 : xI) (R2 : xR) (L2 : xL), CST sh I2 R2 L2 (spBeast V x y z w).2 rc ars t W A o → CFR I I2 L L2 → P (n, sh, 0, 0) I2 R2 L2 (some (.int (spBeast V x y z w).1))) : XM T zX9_beast 2 [.ref 0, .int x, .int y, .int z, .int w] n sh I R L P := by
  have e86 := v.1.2.2
  exact c_beast h.1 h.2.1 v.1.1 (fun I2 f k => K I2 R L (h.mvN f s86_beast (fun a p => k a (by omega))) ⟨fun a p => k a (by omega), fun _ _ => rfl⟩)

set_option maxHeartbeats 4000000 in
set_option maxRecDepth 100000 in
theorem C_set {T : xT} {n : Nat} {sh : Nat → Nat × Nat} {I : xI} {R : xR} {L : xL} {P : xPost} {V : xV} {rc : Nat} {ars : Nat → xAR} {t : xX} {W : xW} {A : List Nat} {o : Option xV} {B : Nat} (h : CST sh I R L V rc ars t W A o) (v : VLD V rc t W A o B) (hB : B < 800000) {x y z : Int32} (K : ∀ (I2 : xI) (R2 : xR) (L2 : xL), CST sh I2 R2 L2 (spSet V x y z).2 rc ars t W A o → CFR I I2 L L2 → P (n, sh, 0, 0) I2 R2 L2 (some (.int (spSet V x y z).1))) : XM T zX9_set 3 [.ref 0, .int x, .int y, .int z] n sh I R L P := by
  have e86 := v.1.2.2
  exact c_set h.1 h.2.1 v.1.1 (fun I2 f k => K I2 R L (h.mvN f s86_set (fun a p => k a (by omega))) ⟨fun a p => k a (by omega), fun _ _ => rfl⟩)

set_option maxHeartbeats 4000000 in
set_option maxRecDepth 100000 in
theorem C_enemies0 {T : xT} {n : Nat} {sh : Nat → Nat × Nat} {I : xI} {R : xR} {L : xL} {P : xPost} {V : xV} {rc : Nat} {ars : Nat → xAR} {t : xX} {W : xW} {A : List Nat} {o : Option xV} {B : Nat} (h : CST sh I R L V rc ars t W A o) (v : VLD V rc t W A o B) (hB : B < 800000) {x y : Int32} (K : ∀ (I2 : xI) (R2 : xR) (L2 : xL), CST sh I2 R2 L2 (spEnem V x y false).2 rc ars t W A o → CFR I I2 L L2 → P (n, sh, 0, 0) I2 R2 L2 (some (.int (spEnem V x y false).1))) : XM T zX9_enemies 2 [.ref 0, .int x, .int y, .int 0] n sh I R L P := by
  have e86 := v.1.2.2
  exact c_enemies0 h.1 h.2.1 v.1.1 (fun I2 f k => K I2 R L (h.mvN f s86_enemies0 (fun a p => k a (by omega))) ⟨fun a p => k a (by omega), fun _ _ => rfl⟩)

set_option maxHeartbeats 4000000 in
set_option maxRecDepth 100000 in
theorem C_enemies1 {T : xT} {n : Nat} {sh : Nat → Nat × Nat} {I : xI} {R : xR} {L : xL} {P : xPost} {V : xV} {rc : Nat} {ars : Nat → xAR} {t : xX} {W : xW} {A : List Nat} {o : Option xV} {B : Nat} (h : CST sh I R L V rc ars t W A o) (v : VLD V rc t W A o B) (hB : B < 800000) {x y : Int32} (K : ∀ (I2 : xI) (R2 : xR) (L2 : xL), CST sh I2 R2 L2 (spEnem V x y true).2 rc ars t W A o → CFR I I2 L L2 → P (n, sh, 0, 0) I2 R2 L2 (some (.int (spEnem V x y true).1))) : XM T zX9_enemies 2 [.ref 0, .int x, .int y, .int 1] n sh I R L P := by
  have e86 := v.1.2.2
  exact c_enemies1 h.1 h.2.1 v.1.1 (fun I2 f k => K I2 R L (h.mvN f s86_enemies1 (fun a p => k a (by omega))) ⟨fun a p => k a (by omega), fun _ _ => rfl⟩)

set_option maxHeartbeats 4000000 in
set_option maxRecDepth 100000 in
theorem C_tamer {T : xT} {n : Nat} {sh : Nat → Nat × Nat} {I : xI} {R : xR} {L : xL} {P : xPost} {V : xV} {rc : Nat} {ars : Nat → xAR} {t : xX} {W : xW} {A : List Nat} {o : Option xV} {B : Nat} (h : CST sh I R L V rc ars t W A o) (v : VLD V rc t W A o B) (hB : B < 800000) {x : Int32} (K : ∀ (I2 : xI) (R2 : xR) (L2 : xL), CST sh I2 R2 L2 (spTamer V x).2 rc ars t W A o → CFR I I2 L L2 → P (n, sh, 0, 0) I2 R2 L2 (some (.int (spTamer V x).1))) : XM T zX9_tamer 2 [.ref 0, .int x] n sh I R L P := by
  have e86 := v.1.2.2
  exact c_tamer h.1 h.2.1 v.1.1 (fun I2 f k => K I2 R L (h.mvN f s86_tamer (fun a p => k a (by omega))) ⟨fun a p => k a (by omega), fun _ _ => rfl⟩)

set_option maxHeartbeats 4000000 in
set_option maxRecDepth 100000 in
theorem C_thunder {T : xT} {n : Nat} {sh : Nat → Nat × Nat} {I : xI} {R : xR} {L : xL} {P : xPost} {V : xV} {rc : Nat} {ars : Nat → xAR} {t : xX} {W : xW} {A : List Nat} {o : Option xV} {B : Nat} (h : CST sh I R L V rc ars t W A o) (v : VLD V rc t W A o B) (hB : B < 800000) {x : Int32} (K : ∀ (I2 : xI) (R2 : xR) (L2 : xL), CST sh I2 R2 L2 (spThunder V x).2 rc ars t W A o → CFR I I2 L L2 → P (n, sh, 0, 0) I2 R2 L2 (some (.int (spThunder V x).1))) : XM T zX9_thunder 1 [.ref 0, .int x] n sh I R L P := by
  have e86 := v.1.2.2
  exact c_thunder h.1 h.2.1 v.1.1 (fun I2 f k => K I2 R L (h.mvN f s86_thunder (fun a p => k a (by omega))) ⟨fun a p => k a (by omega), fun _ _ => rfl⟩)

set_option maxHeartbeats 4000000 in
set_option maxRecDepth 100000 in
theorem C_walk {T : xT} {n : Nat} {sh : Nat → Nat × Nat} {I : xI} {R : xR} {L : xL} {P : xPost} {V : xV} {rc : Nat} {ars : Nat → xAR} {t : xX} {W : xW} {A : List Nat} {o : Option xV} {B : Nat} (h : CST sh I R L V rc ars t W A o) (v : VLD V rc t W A o B) (hB : B < 800000) {x : Int32} (K : ∀ (I2 : xI) (R2 : xR) (L2 : xL), CST sh I2 R2 L2 (spCome V 6 12 x).2 rc ars t W A o → CFR I I2 L L2 → P (n, sh, 0, 0) I2 R2 L2 (some (.int (spCome V 6 12 x).1))) : XM T zX9_walk 3 [.ref 0, .int x] n sh I R L P := by
  have e86 := v.1.2.2
  exact c_walkIt h.1 h.2.1 v.1.1 (fun I2 f k => K I2 R L (h.mvN f s86_walk (fun a p => k a (by omega))) ⟨fun a p => k a (by omega), fun _ _ => rfl⟩)

set_option maxHeartbeats 4000000 in
set_option maxRecDepth 100000 in
theorem C_film {T : xT} {n : Nat} {sh : Nat → Nat × Nat} {I : xI} {R : xR} {L : xL} {P : xPost} {V : xV} {rc : Nat} {ars : Nat → xAR} {t : xX} {W : xW} {A : List Nat} {o : Option xV} {B : Nat} (h : CST sh I R L V rc ars t W A o) (v : VLD V rc t W A o B) (hB : B < 800000) {x : Int32} (K : ∀ (I2 : xI) (R2 : xR) (L2 : xL), CST sh I2 R2 L2 (spCome V 7 10 x).2 rc ars t W A o → CFR I I2 L L2 → P (n, sh, 0, 0) I2 R2 L2 (some (.int (spCome V 7 10 x).1))) : XM T zX9_film 3 [.ref 0, .int x] n sh I R L P := by
  have e86 := v.1.2.2
  exact c_filmIt h.1 h.2.1 v.1.1 (fun I2 f k => K I2 R L (h.mvN f s86_film (fun a p => k a (by omega))) ⟨fun a p => k a (by omega), fun _ _ => rfl⟩)

set_option maxHeartbeats 4000000 in
set_option maxRecDepth 100000 in
theorem C_go {T : xT} {n : Nat} {sh : Nat → Nat × Nat} {I : xI} {R : xR} {L : xL} {P : xPost} {V : xV} {rc : Nat} {ars : Nat → xAR} {t : xX} {W : xW} {A : List Nat} {o : Option xV} {B : Nat} (h : CST sh I R L V rc ars t W A o) (v : VLD V rc t W A o B) (hB : B < 800000) {x : Int32} (K : ∀ (I2 : xI) (R2 : xR) (L2 : xL), CST sh I2 R2 L2 (spGo V (rgVal ars V) x).2 rc ars t W A o → CFR I I2 L L2 → P (n, sh, 0, 0) I2 R2 L2 (some (.int (spGo V (rgVal ars V) x).1))) : XM T zX9_go 6 [.ref 0, .int x] n sh I R L P := by
  have e86 := v.1.2.2
  have e6 : (spGo V (rgVal ars V) x).2 8 6 = V 8 6 := by
    unfold spGo
    repeat' split
    all_goals first | rfl | exact setCT_8 (by decide)
  exact c_go h.1 h.2.1 v.1.1 hB h.2.2.1 e86 h.2.2.2.1 (fun I2 f k => K I2 R L (h.mvN f e6 (fun a p => k a (by omega))) ⟨fun a p => k a (by omega), fun _ _ => rfl⟩)

set_option maxHeartbeats 4000000 in
set_option maxRecDepth 100000 in
theorem C_of {T : xT} {n : Nat} {sh : Nat → Nat × Nat} {I : xI} {R : xR} {L : xL} {P : xPost} {V : xV} {rc : Nat} {ars : Nat → xAR} {t : xX} {W : xW} {A : List Nat} {o : Option xV} {B : Nat} (h : CST sh I R L V rc ars t W A o) (v : VLD V rc t W A o B) (hB : B < 800000) {x y : Int32} (K : ∀ (I2 : xI) (R2 : xR) (L2 : xL), CST sh I2 R2 L2 V rc ars t W A o → CFR I I2 L L2 → P (n, sh, 0, 0) I2 R2 L2 (some (.int (spOf V (rgVal ars V) x y)))) : XM T zX9_of 5 [.ref 0, .int x, .int y] n sh I R L P := by
  have e86 := v.1.2.2
  exact c_of h.1 h.2.1 v.1.1 hB h.2.2.1 e86 h.2.2.2.1 (fun I2 f k => K I2 R L (h.mvN f rfl (fun a p => k a (by omega))) ⟨fun a p => k a (by omega), fun _ _ => rfl⟩)

set_option maxHeartbeats 4000000 in
set_option maxRecDepth 100000 in
theorem C_safe {T : xT} {n : Nat} {sh : Nat → Nat × Nat} {I : xI} {R : xR} {L : xL} {P : xPost} {V : xV} {rc : Nat} {ars : Nat → xAR} {t : xX} {W : xW} {A : List Nat} {o : Option xV} {B : Nat} (h : CST sh I R L V rc ars t W A o) (v : VLD V rc t W A o B) (hB : B < 800000) (K : ∀ (I2 : xI) (R2 : xR) (L2 : xL), CST sh I2 R2 L2 V rc ars t W A o → CFR I I2 L L2 → P (n, sh, 0, 0) I2 R2 L2 (some (.long (spSafe V (rgVal ars V))))) : XM T zX9_safe 6 [.ref 0] n sh I R L P := by
  have e86 := v.1.2.2
  exact c_safe h.1 h.2.1 v.1.1 hB h.2.2.1 e86 h.2.2.2.1 (fun I2 R2 k r => K I2 R2 L (h.mvT (fun a p => k a (by omega)) r (fun _ _ => rfl)) ⟨fun a p => k a (by omega), fun _ _ => rfl⟩)

set_option maxHeartbeats 4000000 in
set_option maxRecDepth 100000 in
theorem C_from {T : xT} {n : Nat} {sh : Nat → Nat × Nat} {I : xI} {R : xR} {L : xL} {P : xPost} {V : xV} {rc : Nat} {ars : Nat → xAR} {t : xX} {W : xW} {A : List Nat} {o : Option xV} {B : Nat} (h : CST sh I R L V rc ars t W A o) (v : VLD V rc t W A o B) (hB : B < 800000) {x : Int32} (K : ∀ (I2 : xI) (R2 : xR) (L2 : xL), CST sh I2 R2 L2 V rc ars t W A o → CFR I I2 L L2 → P (n, sh, 0, 0) I2 R2 L2 (some (.int (spFrom V (rgVal ars V) x)))) : XM T zX9_from 6 [.ref 0, .int x] n sh I R L P := by
  have e86 := v.1.2.2
  exact c_from h.1 h.2.1 v.1.1 hB h.2.2.1 e86 h.2.2.2.1 (fun I2 R2 k r => K I2 R2 L (h.mvT (fun a p => k a (by omega)) r (fun _ _ => rfl)) ⟨fun a p => k a (by omega), fun _ _ => rfl⟩)

set_option maxHeartbeats 4000000 in
set_option maxRecDepth 100000 in
theorem C_gone {T : xT} {n : Nat} {sh : Nat → Nat × Nat} {I : xI} {R : xR} {L : xL} {P : xPost} {V : xV} {rc : Nat} {ars : Nat → xAR} {t : xX} {W : xW} {A : List Nat} {o : Option xV} {B : Nat} (h : CST sh I R L V rc ars t W A o) (v : VLD V rc t W A o B) (hB : B < 800000) {x : Int32} (K : ∀ (I2 : xI) (R2 : xR) (L2 : xL), CST sh I2 R2 L2 V rc ars t W A o → CFR I I2 L L2 → P (n, sh, 0, 0) I2 R2 L2 (some (.int (spGone V (rgVal ars V) x)))) : XM T zX9_gone 6 [.ref 0, .int x] n sh I R L P := by
  have e86 := v.1.2.2
  exact c_gone h.1 h.2.1 v.1.1 hB h.2.2.1 e86 h.2.2.2.1 (fun I2 R2 k r => K I2 R2 L (h.mvT (fun a p => k a (by omega)) r (fun _ _ => rfl)) ⟨fun a p => k a (by omega), fun _ _ => rfl⟩)

set_option maxHeartbeats 4000000 in
set_option maxRecDepth 100000 in
theorem C_sit {T : xT} {n : Nat} {sh : Nat → Nat × Nat} {I : xI} {R : xR} {L : xL} {P : xPost} {V : xV} {rc : Nat} {ars : Nat → xAR} {t : xX} {W : xW} {A : List Nat} {o : Option xV} {B : Nat} (h : CST sh I R L V rc ars t W A o) (v : VLD V rc t W A o B) (hB : B < 800000) (K : ∀ (I2 : xI) (R2 : xR) (L2 : xL), CST sh I2 R2 L2 V rc ars t W A o → CFR I I2 L L2 → P (n, sh, 0, 0) I2 R2 L2 (some (.int (spSit V (rgVal ars V))))) : XM T zX9_sit 6 [.ref 0] n sh I R L P := by
  have e86 := v.1.2.2
  exact c_sit h.1 h.2.1 v.1.1 hB h.2.2.1 e86 h.2.2.2.1 (fun I2 R2 k r => K I2 R2 L (h.mvT (fun a p => k a (by omega)) r (fun _ _ => rfl)) ⟨fun a p => k a (by omega), fun _ _ => rfl⟩)

set_option maxHeartbeats 4000000 in
set_option maxRecDepth 100000 in
theorem C_line {T : xT} {n : Nat} {sh : Nat → Nat × Nat} {I : xI} {R : xR} {L : xL} {P : xPost} {V : xV} {rc : Nat} {ars : Nat → xAR} {t : xX} {W : xW} {A : List Nat} {o : Option xV} {B : Nat} (h : CST sh I R L V rc ars t W A o) (v : VLD V rc t W A o B) (hB : B < 800000) {x : Int32} (K : ∀ (I2 : xI) (R2 : xR) (L2 : xL), CST sh I2 R2 L2 V rc ars t W A o → CFR I I2 L L2 → P (n, sh, 0, 0) I2 R2 L2 (some (.int (spLine V (rgVal ars V) x)))) : XM T zX9_line 6 [.ref 0, .int x] n sh I R L P := by
  have e86 := v.1.2.2
  exact c_line h.1 h.2.1 v.1.1 hB h.2.2.1 e86 h.2.2.2.1 (fun I2 R2 k r => K I2 R2 L (h.mvT (fun a p => k a (by omega)) r (fun _ _ => rfl)) ⟨fun a p => k a (by omega), fun _ _ => rfl⟩)

set_option maxHeartbeats 4000000 in
set_option maxRecDepth 100000 in
theorem C_calm {T : xT} {n : Nat} {sh : Nat → Nat × Nat} {I : xI} {R : xR} {L : xL} {P : xPost} {V : xV} {rc : Nat} {ars : Nat → xAR} {t : xX} {W : xW} {A : List Nat} {o : Option xV} {B : Nat} (h : CST sh I R L V rc ars t W A o) (v : VLD V rc t W A o B) (hB : B < 800000) {x y : Int32} (K : ∀ (I2 : xI) (R2 : xR) (L2 : xL), CST sh I2 R2 L2 V rc ars t W A o → CFR I I2 L L2 → P (n, sh, 0, 0) I2 R2 L2 (some (.long (spCalm V (rgVal ars V) x y)))) : XM T zX9_calm 7 [.ref 0, .int x, .int y] n sh I R L P := by
  have e86 := v.1.2.2
  exact c_calm h.1 h.2.1 v.1.1 hB h.2.2.1 e86 h.2.2.2.1 (fun I2 R2 k r => K I2 R2 L (h.mvT (fun a p => k a (by omega)) r (fun _ _ => rfl)) ⟨fun a p => k a (by omega), fun _ _ => rfl⟩)

set_option maxHeartbeats 4000000 in
set_option maxRecDepth 100000 in
theorem C_kinds {T : xT} {n : Nat} {sh : Nat → Nat × Nat} {I : xI} {R : xR} {L : xL} {P : xPost} {V : xV} {rc : Nat} {ars : Nat → xAR} {t : xX} {W : xW} {A : List Nat} {o : Option xV} {B : Nat} (h : CST sh I R L V rc ars t W A o) (v : VLD V rc t W A o B) (hB : B < 800000) {x : Int32} (K : ∀ (I2 : xI) (R2 : xR) (L2 : xL), CST sh I2 R2 L2 V rc ars t W A o → CFR I I2 L L2 → P (n, sh, 0, 0) I2 R2 L2 (some (.int (spKinds V (rgVal ars V) x)))) : XM T zX9_kinds 7 [.ref 0, .int x] n sh I R L P := by
  have e86 := v.1.2.2
  exact c_kinds h.1 h.2.1 v.1.1 hB h.2.2.1 e86 h.2.2.2.1 (fun I2 R2 k r => K I2 R2 L (h.mvT (fun a p => k a (by omega)) r (fun _ _ => rfl)) ⟨fun a p => k a (by omega), fun _ _ => rfl⟩)

set_option maxHeartbeats 4000000 in
set_option maxRecDepth 100000 in
theorem C_judge {T : xT} {n : Nat} {sh : Nat → Nat × Nat} {I : xI} {R : xR} {L : xL} {P : xPost} {V : xV} {rc : Nat} {ars : Nat → xAR} {t : xX} {W : xW} {A : List Nat} {o : Option xV} {B : Nat} (h : CST sh I R L V rc ars t W A o) (v : VLD V rc t W A o B) (hB : B < 800000) {x y z : Int32} (K : ∀ (I2 : xI) (R2 : xR) (L2 : xL), CST sh I2 R2 L2 V rc ars t W A o → CFR I I2 L L2 → P (n, sh, 0, 0) I2 R2 L2 (some (.int (spJudge V (rgVal ars V) W x y z)))) : XM T zX9_judge 6 [.ref 0, .int x, .int y, .int z] n sh I R L P := by
  have e86 := v.1.2.2
  exact c_judgeIt h.1 h.2.1 v.1.1 hB h.2.2.1 e86 h.2.2.2.1 h.2.2.2.2.2.1 v.2.2.1 (fun I2 R2 k r => K I2 R2 L (h.mvT (fun a p => k a (by omega)) r (fun _ _ => rfl)) ⟨fun a p => k a (by omega), fun _ _ => rfl⟩)

set_option maxHeartbeats 4000000 in
set_option maxRecDepth 100000 in
theorem C_shortest {T : xT} {n : Nat} {sh : Nat → Nat × Nat} {I : xI} {R : xR} {L : xL} {P : xPost} {V : xV} {rc : Nat} {ars : Nat → xAR} {t : xX} {W : xW} {A : List Nat} {o : Option xV} {B : Nat} (h : CST sh I R L V rc ars t W A o) (v : VLD V rc t W A o B) (hB : B < 800000) {x y : Int32} (K : ∀ (I2 : xI) (R2 : xR) (L2 : xL), CST sh I2 R2 L2 V rc ars t W A o → CFR I I2 L L2 → P (n, sh, 0, 0) I2 R2 L2 (some (.int (spShort V (rgVal ars V) x y)))) : XM T zX9_shortest 7 [.ref 0, .int x, .int y] n sh I R L P := by
  have e86 := v.1.2.2
  exact c_shortestIt h.1 h.2.1 v.1.1 hB h.2.2.1 e86 h.2.2.2.1 (fun I2 R2 L2 k r l => K I2 R2 L2 (h.mvT (fun a p => k a (by omega) (by omega)) r (fun a p => l a p)) ⟨fun a p => k a (by omega) (by omega), fun a p => l a (by omega)⟩)

set_option maxHeartbeats 4000000 in
set_option maxRecDepth 100000 in
theorem C_seats {T : xT} {n : Nat} {sh : Nat → Nat × Nat} {I : xI} {R : xR} {L : xL} {P : xPost} {V : xV} {rc : Nat} {ars : Nat → xAR} {t : xX} {W : xW} {A : List Nat} {o : Option xV} {B : Nat} (h : CST sh I R L V rc ars t W A o) (v : VLD V rc t W A o B) (hB : B < 800000) {x : Int32} (K : ∀ (I2 : xI) (R2 : xR) (L2 : xL), CST sh I2 R2 L2 V rc ars t W A o → CFR I I2 L L2 → P (n, sh, 0, 0) I2 R2 L2 (some (.int (spSeats V x)))) : XM T zX9_seats 11 [.ref 0, .int x] n sh I R L P := by
  have e86 := v.1.2.2
  exact c_seatsIt h.1 h.2.1 v.1.1 v.1.2.1 (fun I2 k => K I2 R L (h.mvT (fun a p => k a (by omega)) trR.rf (fun _ _ => rfl)) ⟨fun a p => k a (by omega), fun _ _ => rfl⟩)

set_option maxHeartbeats 4000000 in
set_option maxRecDepth 100000 in
theorem C_feed {T : xT} {n : Nat} {sh : Nat → Nat × Nat} {I : xI} {R : xR} {L : xL} {P : xPost} {V : xV} {rc : Nat} {ars : Nat → xAR} {t : xX} {W : xW} {A : List Nat} {o : Option xV} {B : Nat} (h : CST sh I R L V rc ars t W A o) (v : VLD V rc t W A o B) (hB : B < 800000) {x y : Int32} (K : ∀ (I2 : xI) (R2 : xR) (L2 : xL), CST sh I2 R2 L2 V rc ars (spFeed t x y).2 W A o → CFR I I2 L L2 → P (n, sh, 0, 0) I2 R2 L2 (some (.int (spFeed t x y).1))) : XM T zX9_feed 1 [.ref 0, .int x, .int y] n sh I R L P := by
  have e86 := v.1.2.2
  exact c_feedIt h.1 h.2.2.2.2.1 v.2.1.1 (fun I2 f k => K I2 R L (h.mvF f (fun a p => k a (by omega) (by omega))) ⟨fun a p => k a (by omega) (by omega), fun _ _ => rfl⟩)

set_option maxHeartbeats 4000000 in
set_option maxRecDepth 100000 in
theorem C_act {T : xT} {n : Nat} {sh : Nat → Nat × Nat} {I : xI} {R : xR} {L : xL} {P : xPost} {V : xV} {rc : Nat} {ars : Nat → xAR} {t : xX} {W : xW} {A : List Nat} {o : Option xV} {B : Nat} (h : CST sh I R L V rc ars t W A o) (v : VLD V rc t W A o B) (hB : B < 800000) {x y z : Int32} (K : ∀ (I2 : xI) (R2 : xR) (L2 : xL), CST sh I2 R2 L2 V rc ars t W (spAct V x y z).2 o → CFR I I2 L L2 → P (n, sh, 0, 0) I2 R2 L2 (some (.int (spAct V x y z).1))) : XM T zX9_act 7 [.ref 0, .int x, .int y, .int z] n sh I R L P := by
  have e86 := v.1.2.2
  exact c_actIt h.1 h.2.1 v.1.1 (fun I2 f k => K I2 R L (h.mvA f (fun a p q r => k a p q r)) ⟨fun a p => k a (by omega) (by omega) (by omega), fun _ _ => rfl⟩)

set_option maxHeartbeats 4000000 in
set_option maxRecDepth 100000 in
theorem C_trace {T : xT} {n : Nat} {sh : Nat → Nat × Nat} {I : xI} {R : xR} {L : xL} {P : xPost} {V : xV} {rc : Nat} {ars : Nat → xAR} {t : xX} {W : xW} {A : List Nat} {o : Option xV} {B : Nat} (h : CST sh I R L V rc ars t W A o) (v : VLD V rc t W A o B) (hB : B < 800000) {x : Int32} (K : ∀ (I2 : xI) (R2 : xR) (L2 : xL), CST sh I2 R2 L2 V rc ars t W A o → CFR I I2 L L2 → P (n, sh, 0, 0) I2 R2 L2 (some (.int (spTrace A.length (fun i => A.getD i 0) x)))) : XM T zX9_trace 1 [.ref 0, .int x] n sh I R L P := by
  have e86 := v.1.2.2
  exact c_trace h.1 v.2.2.2.1 h.2.2.2.2.2.2.1.2 (K I R L h ⟨fun _ _ => rfl, fun _ _ => rfl⟩)

set_option maxHeartbeats 4000000 in
set_option maxRecDepth 100000 in
theorem C_taken {T : xT} {n : Nat} {sh : Nat → Nat × Nat} {I : xI} {R : xR} {L : xL} {P : xPost} {V : xV} {rc : Nat} {ars : Nat → xAR} {t : xX} {W : xW} {A : List Nat} {o : Option xV} {B : Nat} (h : CST sh I R L V rc ars t W A o) (v : VLD V rc t W A o B) (hB : B < 800000) {x y : Int32} (K : ∀ (I2 : xI) (R2 : xR) (L2 : xL), CST sh I2 R2 L2 V rc ars t W A o → CFR I I2 L L2 → P (n, sh, 0, 0) I2 R2 L2 (some (.int (spTaken V x y)))) : XM T zX9_taken 2 [.ref 0, .int x, .int y] n sh I R L P := by
  have e86 := v.1.2.2
  exact c_taken h.1 h.2.1 v.1.1 (K I R L h ⟨fun _ _ => rfl, fun _ _ => rfl⟩)

set_option maxHeartbeats 4000000 in
set_option maxRecDepth 100000 in
theorem C_count {T : xT} {n : Nat} {sh : Nat → Nat × Nat} {I : xI} {R : xR} {L : xL} {P : xPost} {V : xV} {rc : Nat} {ars : Nat → xAR} {t : xX} {W : xW} {A : List Nat} {o : Option xV} {B : Nat} (h : CST sh I R L V rc ars t W A o) (v : VLD V rc t W A o B) (hB : B < 800000) {x : Int32} (K : ∀ (I2 : xI) (R2 : xR) (L2 : xL), CST sh I2 R2 L2 V rc ars t W A o → CFR I I2 L L2 → P (n, sh, 0, 0) I2 R2 L2 (some (.int (spCount V rc t.1 A.length x)))) : XM T zX9_count 1 [.ref 0, .int x] n sh I R L P := by
  have e86 := v.1.2.2
  exact c_count h.1 h.2.1 v.1.1 h.2.2.1.2.1 h.2.2.2.2.1.1 h.2.2.2.2.2.2.1.1 (K I R L h ⟨fun _ _ => rfl, fun _ _ => rfl⟩)

set_option maxHeartbeats 4000000 in
set_option maxRecDepth 100000 in
theorem C_tape {T : xT} {n : Nat} {sh : Nat → Nat × Nat} {I : xI} {R : xR} {L : xL} {P : xPost} {V : xV} {rc : Nat} {ars : Nat → xAR} {t : xX} {W : xW} {A : List Nat} {o : Option xV} {B : Nat} (h : CST sh I R L V rc ars t W A o) (v : VLD V rc t W A o B) (hB : B < 800000) {x y z : Int32} (K : ∀ (I2 : xI) (R2 : xR) (L2 : xL), CST sh I2 R2 L2 V rc ars t (spTape W x y z).2 A o → CFR I I2 L L2 → P (n, sh, 0, 0) I2 R2 L2 (some (.int (spTape W x y z).1))) : XM T zX9_tape 2 [.ref 0, .int x, .int y, .int z] n sh I R L P := by
  have e86 := v.1.2.2
  exact c_tapeIt h.1 h.2.2.2.2.2.1 v.2.2.1 (fun I2 L2 f k l => K I2 R L2 (h.mvW f k) ⟨fun a p => k a (by omega), fun a p => l a (by omega)⟩)

set_option maxHeartbeats 4000000 in
set_option maxRecDepth 100000 in
theorem C_item {T : xT} {n : Nat} {sh : Nat → Nat × Nat} {I : xI} {R : xR} {L : xL} {P : xPost} {V : xV} {rc : Nat} {ars : Nat → xAR} {t : xX} {W : xW} {A : List Nat} {o : Option xV} {B : Nat} (h : CST sh I R L V rc ars t W A o) (v : VLD V rc t W A o B) (hB : B < 800000) {x y : Int32} {w : Int64} (K : ∀ (I2 : xI) (R2 : xR) (L2 : xL), CST sh I2 R2 L2 V rc ars t (spItem W x y w).2 A o → CFR I I2 L L2 → P (n, sh, 0, 0) I2 R2 L2 (some (.int (spItem W x y w).1))) : XM T zX9_item 3 [.ref 0, .int x, .int y, .long w] n sh I R L P := by
  have e86 := v.1.2.2
  exact c_itemIt h.1 h.2.2.2.2.2.1 v.2.2.1 (fun I2 L2 f k l => K I2 R L2 (h.mvW f k) ⟨fun a p => k a (by omega), fun a p => l a (by omega)⟩)

set_option maxHeartbeats 4000000 in
set_option maxRecDepth 100000 in
theorem C_shift {T : xT} {n : Nat} {sh : Nat → Nat × Nat} {I : xI} {R : xR} {L : xL} {P : xPost} {V : xV} {rc : Nat} {ars : Nat → xAR} {t : xX} {W : xW} {A : List Nat} {o : Option xV} {B : Nat} (h : CST sh I R L V rc ars t W A o) (v : VLD V rc t W A o B) (hB : B < 800000) {x y z w u : Int32} (K : ∀ (I2 : xI) (R2 : xR) (L2 : xL), CST sh I2 R2 L2 V rc ars t (spShift W x y z w u).2 A o → CFR I I2 L L2 → P (n, sh, 0, 0) I2 R2 L2 (some (.int (spShift W x y z w u).1))) : XM T zX9_shift 2 [.ref 0, .int x, .int y, .int z, .int w, .int u] n sh I R L P := by
  have e86 := v.1.2.2
  exact c_shiftIt h.1 h.2.2.2.2.2.1 v.2.2.1 (fun I2 L2 f k l => K I2 R L2 (h.mvW f k) ⟨fun a p => k a (by omega), fun a p => l a (by omega)⟩)

set_option maxHeartbeats 4000000 in
set_option maxRecDepth 100000 in
theorem C_read {T : xT} {n : Nat} {sh : Nat → Nat × Nat} {I : xI} {R : xR} {L : xL} {P : xPost} {V : xV} {rc : Nat} {ars : Nat → xAR} {t : xX} {W : xW} {A : List Nat} {o : Option xV} {B : Nat} (h : CST sh I R L V rc ars t W A o) (v : VLD V rc t W A o B) (hB : B < 800000) {x y : Int32} (K : ∀ (I2 : xI) (R2 : xR) (L2 : xL), CST sh I2 R2 L2 V rc ars t W A o → CFR I I2 L L2 → P (n, sh, 0, 0) I2 R2 L2 (some (.long (spRead W x y)))) : XM T zX9_read 2 [.ref 0, .int x, .int y] n sh I R L P := by
  have e86 := v.1.2.2
  exact c_readIt h.1 h.2.2.2.2.2.1 v.2.2.1 (K I R L h ⟨fun _ _ => rfl, fun _ _ => rfl⟩)

set_option maxHeartbeats 4000000 in
set_option maxRecDepth 100000 in
theorem C_image {T : xT} {n : Nat} {sh : Nat → Nat × Nat} {I : xI} {R : xR} {L : xL} {P : xPost} {V : xV} {rc : Nat} {ars : Nat → xAR} {t : xX} {W : xW} {A : List Nat} {o : Option xV} {B : Nat} (h : CST sh I R L V rc ars t W A o) (v : VLD V rc t W A o B) (hB : B < 800000) (K : ∀ (I2 : xI) (R2 : xR) (L2 : xL), CST sh I2 R2 L2 V rc ars t W A (some V) → CFR I I2 L L2 → P (n, sh, 0, 0) I2 R2 L2 (some (.int (nI (V 8 0))))) : XM T zX9_image 3 [.ref 0] n sh I R L P := by
  have e86 := v.1.2.2
  refine c_image h.1 h.2.1 v.1.1 (fun I2 f g e k k0 => K I2 (up2 R 19 11 (R 1 11)) L ?_ ⟨fun a p => k a (by omega) (by omega), fun _ _ => rfl⟩)
  obtain ⟨g0, h1, h2, h3, h4, h5, h6, h7⟩ := h
  exact ⟨g0.keepR (fun a j q => up2_k q), f, h2.keep (k0 6 (by decide)) (fun a p q => k a (by omega) (by omega)), (congrFun (up2_row (by decide)) 11).trans h3, h4.keep (k _ (by omega) (by omega)) (k _ (by omega) (by omega)), h5.keep (fun a p q => k a (by omega) (by omega)), h6.keepU (fun a p q => k a (by omega) (by omega)), e, g, up2_s.trans h3⟩

set_option maxHeartbeats 4000000 in
set_option maxRecDepth 100000 in
theorem C_undo {T : xT} {n : Nat} {sh : Nat → Nat × Nat} {I : xI} {R : xR} {L : xL} {P : xPost} {V : xV} {rc : Nat} {ars : Nat → xAR} {t : xX} {W : xW} {A : List Nat} {o : Option xV} {B : Nat} (h : CST sh I R L V rc ars t W A o) (v : VLD V rc t W A o B) (hB : B < 800000) (K0 : o = none → P (n, sh, 0, 0) I R L (some (.int (-3)))) (K1 : ∀ (U : xV) (I2 : xI) (R2 : xR), o = some U → CST sh I2 R2 L U rc ars t W A o → CFR I I2 L L → P (n, sh, 0, 0) I2 R2 L (some (.int (nI (U 8 0))))) : XM T zX9_undo 3 [.ref 0] n sh I R L P := by
  obtain ⟨g0, h1, h2, h3, h4, h5, h6, h7⟩ := h
  cases o with
  | none => exact c_undo0 g0 h7 (K0 rfl)
  | some U =>
    obtain ⟨i1, i2, i3⟩ := h7
    refine c_undo1 g0 i2 (v.2.2.2.2 U rfl).1 i1 (fun I2 f k => K1 U I2 _ rfl ?_ ⟨fun a p => k a (by omega), fun _ _ => rfl⟩)
    exact ⟨g0.keepR (fun a j q => up2_k q), f, h2.keep (by rw [k 0 (by omega)]) (fun a p q => k a (by omega)), up2_s.trans i3, h4.keep (k _ (by omega)) (k _ (by omega)), h5.keep (fun a p q => k a (by omega)), h6.keepU (fun a p q => k a (by omega)), by rw [k 0 (by omega)]; exact i1, i2.keep (fun a p q => k a (by omega)), (congrFun (up2_row (by decide)) 11).trans i3⟩

set_option maxHeartbeats 4000000 in
set_option maxRecDepth 100000 in
theorem C_ring {T : xT} {n : Nat} {sh : Nat → Nat × Nat} {I : xI} {R : xR} {L : xL} {P : xPost} {V : xV} {rc : Nat} {ars : Nat → xAR} {t : xX} {W : xW} {A : List Nat} {o : Option xV} {B : Nat} (h : CST sh I R L V rc ars t W A o) (v : VLD V rc t W A o B) (hB : B < 800000) (K6 : rc = 6 → P (n, sh, 0, 0) I R L (some (.int (-4)))) (K0 : ∀ (q : Nat) (I2 : xI), rc < 6 → RLN (nxX t) t.1 8 0 [] (q, none) → CST sh I2 R L V rc ars (0, t.2) W A o → CFR I I2 L L → P (n, sh, 0, 0) I2 R L (some (.int (-10 - nI q)))) (K1 : ∀ (acc : List xCL) (I2 : xI) (R2 : xR), rc < 6 → RLN (nxX t) t.1 8 0 [] (t.1, some acc) → CST sh I2 R2 L (up2 V 8 6 (rc + 1)) (rc + 1) (arsN ars rc (arOf acc)) (0, t.2) W A o → CFR I I2 L L → P (n, sh, 0, 0) I2 R2 L (some (.int (nI rc)))) : XM T zX9_ring 19 [.ref 0] n sh I R L P := by
  have hrc6 := h.2.2.1.1
  refine c_ringIt h.1 v.2.1 h.2.2.2.2.1 h.2.2.1.2.1 hrc6 K6 (fun I2 q h6 hr hq e k => K0 q I2 h6 hr (h.mvF (t2 := (0, t.2)) ⟨e, fun i hi => absurd hi (Nat.not_lt_zero i)⟩ (fun a p => k a (by omega))) ⟨fun a p => k a (by omega), fun _ _ => rfl⟩) (fun I2 acc h6 hr hd hl e e6 k6 k => K1 acc I2 _ h6 hr ?_ ⟨fun a p => k a (by omega) (by omega) (by omega), fun _ _ => rfl⟩)
  have hk := rln_k v.2.1 8 0 [] (by decide) (fun x hx => by cases hx) hr
  have hld := ld_loud hk.2
  obtain ⟨g0, h1, h2, h3, h4, h5, h6', h7⟩ := h
  refine ⟨g0.keepR (fun a j q => up2_k q), ?_, ⟨by omega, e6, fun j hj => ?_⟩, ?_, ⟨e, fun i hi => absurd hi (Nat.not_lt_zero i)⟩, h5.keep (fun a p q => k a (by omega) (by omega) (by omega)), h6'.keepU (fun a p q => k a (by omega) (by omega) (by omega)), h7.keep (k6 3 (by decide)) (fun a p q => k a (by omega) (by omega) (by omega)) (congrFun (up2_row (by decide)) 11)⟩
  · have f1 : FSC I2 1 V := h1.keep (fun a p q => k a (by omega) (by omega) (by omega))
    obtain ⟨f2, f3, f4, f5, f6⟩ := f1
    refine ⟨fun j hj => ?_, f3.trans (by rw [up2_k (by decide)]), f4.trans (by rw [up2_k (by decide)]), f5.trans (by rw [up2_k (by decide)]), f6⟩
    have ev : vsz (up2 V 8 6 (rc + 1)) j = vsz V j := by
      unfold vsz
      rw [up2_k (by decide), up2_k (by decide), up2_k (by decide)]
    rw [ev, up2_row (show j ≠ 8 by omega)]
    exact f2 j hj
  · by_cases z : j = rc
    · subst z
      rw [arsN_n]
      exact ⟨rg_new hd hk, hl.trans (by rw [hld.1]; rfl), by rw [← show ldN acc = loudA (arOf acc) (arOf acc).1 from hld.1]; exact hld.2⟩
    · rw [arsN_o z]
      obtain ⟨a1, a2, a3⟩ := h2.2.2 j (by omega)
      exact ⟨a1.k7 (fun a p q => k a (by omega) (by omega) (by omega)), by rw [k _ (by omega) (by omega) (by omega)]; exact a2, a3⟩
  · rw [up2_s]
    unfold rgRef
    rw [up2_s, if_neg (by omega)]
    rfl

