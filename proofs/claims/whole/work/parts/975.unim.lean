/-! ===== how all is, on the reference's side; each method in one form ===== -/
def IMM (I : xI) (o : Option xV) : Prop := match o with
  | none => I 137 48 = 0
  | some U => I 137 48 = 1 ∧ MIM I 137 U
theorem IMM.keep {I I2 : xI} {o : Option xV} (h : IMM I o) (hk : ∀ k, 48 ≤ k → k ≤ 55 → I2 137 k = I 137 k) (ha : ∀ a, 164 ≤ a → a ≤ 171 → I2 a = I a) : IMM I2 o := by
  cases o with
  | none => exact (hk 48 (by omega) (by omega)).trans h
  | some U => exact ⟨(hk 48 (by omega) (by omega)).trans h.1, h.2.keep (fun k p q => hk k (by omega) q) (fun a p q => ha a (by omega) (by omega))⟩
theorem AMT.keepU {I I2 : xI} {A : List Nat} (h : AMT I 137 A) (hk : I2 137 64 = I 137 64) (ha : I2 (137 + 35) = I (137 + 35)) : AMT I2 137 A := ⟨hk.trans h.1, fun i hi => (congrFun ha i).trans (h.2 i hi)⟩
theorem mTxt.keepU {I I2 : xI} {t : xX} (h : mTxt I 137 t) (hk : I2 137 12 = I 137 12) (ha : I2 (137 + 7) = I (137 + 7)) : mTxt I2 137 t := ⟨hk.trans h.1, fun i hi => (congrFun ha i).trans (h.2 i hi)⟩
theorem TPM.keepL {I : xI} {L L2 : xL} {W : xW} (h : TPM I L 137 W) (ha : L2 (137 + 38) = L (137 + 38)) : TPM I L2 137 W := fun t ht => ⟨(h t ht).1, (h t ht).2.1, fun i hi => (congrFun ha _).trans ((h t ht).2.2 i hi)⟩
/-- the reference's state -/
def MST (I : xI) (L : xL) (V : xV) (rc : Nat) (ars : Nat → xAR) (t : xX) (W : xW) (A : List Nat) (o : Option xV) : Prop := MDV I 137 V ∧ mRings I 137 rc ars ∧ SGB I 137 rc ars ∧ mTxt I 137 t ∧ LWD I 137 ∧ TPM I L 137 W ∧ AMT I 137 A ∧ IMM I o
def MFR (I I2 : xI) (L L2 : xL) : Prop := (∀ a, a < 137 → I2 a = I a) ∧ ∀ a, a < 137 → L2 a = L a
section MSTS
variable {I I2 : xI} {L L2 : xL} {V V2 : xV} {rc : Nat} {ars : Nat → xAR} {t t2 : xX} {W W2 : xW} {A A2 : List Nat} {o : Option xV}
theorem MST.mvP (h : MST I L V rc ars t W A o) (f : MDV I2 137 V2) (p : mdP 137 I I2) : MST I2 L V2 rc ars t W A o := by
  obtain ⟨h1, h2, h3, h4, h5, h6, h7, h8⟩ := h
  exact ⟨f, h2.keep p, h3.keep (p.1 _ (by omega)) (p.1 _ (by omega)), h4.keepU (p.2 12 (by omega)) (p.1 _ (by omega)), h5.keep (p.1 _ (by omega)), h6.keep (p.1 _ (by omega)) (p.1 _ (by omega)), h7.keepU (p.2 64 (by omega)) (p.1 _ (by omega)), h8.keep (fun k q _ => p.2 k (by omega)) (fun a q _ => p.1 a (by omega))⟩
theorem MST.high (h : MST I L V rc ars t W A o) (hI : ∀ a, 137 ≤ a → I2 a = I a) (hL : ∀ a, 137 ≤ a → L2 a = L a) : MST I2 L2 V rc ars t W A o := by
  have p : mdP 137 I I2 → MST I2 L V rc ars t W A o := fun p => h.mvP (h.1.keep (fun k _ => by rw [hI 137 (by omega)]) (fun j _ => hI _ (by omega))) p
  obtain ⟨h1, h2, h3, h4, h5, h6, h7, h8⟩ := h
  have h2' : mRings I2 137 rc ars := by
    refine ⟨h2.1, by rw [hI 137 (by omega)]; exact h2.2.1, fun j hj => ?_⟩
    have k := h2.2.2 j hj
    unfold mdRing at k ⊢
    rw [hI (137 + 8) (by omega), hI (137 + 9) (by omega), hI (137 + 10) (by omega), hI (137 + 11) (by omega), hI (137 + 12) (by omega), hI (137 + 13) (by omega)]
    exact k
  have e : I2 137 = I 137 := hI 137 (by omega)
  exact ⟨h1.keep (fun k _ => by rw [e]) (fun j _ => hI _ (by omega)), h2', h3.keep (hI _ (by omega)) (hI _ (by omega)), h4.keepU (by rw [e]) (hI _ (by omega)), h5.keep (hI _ (by omega)), (h6.keep (hI _ (by omega)) (hI _ (by omega))).keepL (hL _ (by omega)), h7.keepU (by rw [e]) (hI _ (by omega)), h8.keep (fun k _ _ => by rw [e]) (fun a q _ => hI a (by omega))⟩
theorem MST.mvF (h : MST I L V rc ars t W A o) (f : mTxt I2 137 t2) (k1 : ∀ a, a ≠ 137 → a ≠ 144 → I2 a = I a) (k2 : ∀ k, k ≠ 12 → I2 137 k = I 137 k) : MST I2 L V rc ars t2 W A o := by
  obtain ⟨h1, h2, h3, h4, h5, h6, h7, h8⟩ := h
  have h2' : mRings I2 137 rc ars := by
    refine ⟨h2.1, (k2 10 (by decide)).trans h2.2.1, fun j hj => ?_⟩
    have k := h2.2.2 j hj
    unfold mdRing at k ⊢
    rw [k1 (137 + 8) (by omega) (by omega), k1 (137 + 9) (by omega) (by omega), k1 (137 + 10) (by omega) (by omega), k1 (137 + 11) (by omega) (by omega), k1 (137 + 12) (by omega) (by omega), k1 (137 + 13) (by omega) (by omega)]
    exact k
  exact ⟨h1.keep (fun k _ => k2 k (by omega)) (fun j _ => k1 _ (by omega) (by omega)), h2', h3.keep (k1 _ (by omega) (by omega)) (k1 _ (by omega) (by omega)), f, h5.keep (k1 _ (by omega) (by omega)), h6.keep (k1 _ (by omega) (by omega)) (k1 _ (by omega) (by omega)), h7.keepU (k2 64 (by omega)) (k1 _ (by omega) (by omega)), h8.keep (fun k _ _ => k2 k (by omega)) (fun a q _ => k1 a (by omega) (by omega))⟩
theorem mRings.row {M : Nat} (h : mRings I M rc ars) (k0 : I2 M 10 = I M 10) (k1 : ∀ a, M + 8 ≤ a → a ≤ M + 13 → I2 a = I a) : mRings I2 M rc ars := by
  refine ⟨h.1, k0.trans h.2.1, fun j hj => ?_⟩
  have k := h.2.2 j hj
  unfold mdRing at k ⊢
  rw [k1 (M + 8) (by omega) (by omega), k1 (M + 9) (by omega) (by omega), k1 (M + 10) (by omega) (by omega), k1 (M + 11) (by omega) (by omega), k1 (M + 12) (by omega) (by omega), k1 (M + 13) (by omega) (by omega)]
  exact k
theorem MST.mvA (h : MST I L V rc ars t W A o) (f : AMT I2 137 A2) (p : amF 137 I I2) : MST I2 L V rc ars t W A2 o := by
  obtain ⟨h1, h2, h3, h4, h5, h6, h7, h8⟩ := h
  exact ⟨h1.keep (fun k _ => p.2 k (by omega)) (fun j _ => p.1 _ (by omega) (by omega)), h2.row (p.2 10 (by omega)) (fun a q r => p.1 a (by omega) (by omega)), h3.keep (p.1 _ (by omega) (by omega)) (p.1 _ (by omega) (by omega)), h4.keepU (p.2 12 (by omega)) (p.1 _ (by omega) (by omega)), h5.keep (p.1 _ (by omega) (by omega)), h6.keep (p.1 _ (by omega) (by omega)) (p.1 _ (by omega) (by omega)), f, h8.keep (fun k _ _ => p.2 k (by omega)) (fun a q _ => p.1 a (by omega) (by omega))⟩
theorem MST.mvW (h : MST I L V rc ars t W A o) (f : TPM I2 L2 137 W2) (p : tpI 137 I I2) : MST I2 L2 V rc ars t W2 A o := by
  obtain ⟨h1, h2, h3, h4, h5, h6, h7, h8⟩ := h
  have e : I2 137 = I 137 := p 137 (by omega) (by omega)
  exact ⟨h1.keep (fun k _ => by rw [e]) (fun j _ => p _ (by omega) (by omega)), h2.row (by rw [e]) (fun a q r => p a (by omega) (by omega)), h3.keep (p _ (by omega) (by omega)) (p _ (by omega) (by omega)), h4.keepU (by rw [e]) (p _ (by omega) (by omega)), h5.keep (p _ (by omega) (by omega)), f, h7.keepU (by rw [e]) (p _ (by omega) (by omega)), h8.keep (fun k _ _ => by rw [e]) (fun a q _ => p a (by omega) (by omega))⟩
end MSTS

set_option maxHeartbeats 4000000 in
set_option maxRecDepth 100000 in
theorem D_beast {T : xT} {n : Nat} {sh : Nat → Nat × Nat} {I : xI} {R : xR} {L : xL} {P : xPost} {V : xV} {rc : Nat} {ars : Nat → xAR} {t : xX} {W : xW} {A : List Nat} {o : Option xV} {B : Nat} (hM : xModel sh R 137) (h : MST I L V rc ars t W A o) (v : VLD V rc t W A o B) (hB : B < 800000) {x y z w : Int32} (K : ∀ (I2 : xI) (L2 : xL), MST I2 L2 (spBeast V x y z w).2 rc ars t W A o → MFR I I2 L L2 → P (n, sh, 0, 0) I2 R L2 (some (.int (spBeast V x y z w).1))) : XM T zX10_beast 2 [.ref 137, .int x, .int y, .int z, .int w] n sh I R L P := by
  have e86 := v.1.2.2
  exact m_beast hM h.1 v.1.1 (fun I2 f p => K I2 L (h.mvP f p) ⟨fun a q => p.1 a (by omega), fun _ _ => rfl⟩)

set_option maxHeartbeats 4000000 in
set_option maxRecDepth 100000 in
theorem D_set {T : xT} {n : Nat} {sh : Nat → Nat × Nat} {I : xI} {R : xR} {L : xL} {P : xPost} {V : xV} {rc : Nat} {ars : Nat → xAR} {t : xX} {W : xW} {A : List Nat} {o : Option xV} {B : Nat} (hM : xModel sh R 137) (h : MST I L V rc ars t W A o) (v : VLD V rc t W A o B) (hB : B < 800000) {x y z : Int32} (K : ∀ (I2 : xI) (L2 : xL), MST I2 L2 (spSet V x y z).2 rc ars t W A o → MFR I I2 L L2 → P (n, sh, 0, 0) I2 R L2 (some (.int (spSet V x y z).1))) : XM T zX10_set 3 [.ref 137, .int x, .int y, .int z] n sh I R L P := by
  have e86 := v.1.2.2
  exact m_set hM h.1 v.1.1 (fun I2 f p => K I2 L (h.mvP f p) ⟨fun a q => p.1 a (by omega), fun _ _ => rfl⟩)

set_option maxHeartbeats 4000000 in
set_option maxRecDepth 100000 in
theorem D_enemies0 {T : xT} {n : Nat} {sh : Nat → Nat × Nat} {I : xI} {R : xR} {L : xL} {P : xPost} {V : xV} {rc : Nat} {ars : Nat → xAR} {t : xX} {W : xW} {A : List Nat} {o : Option xV} {B : Nat} (hM : xModel sh R 137) (h : MST I L V rc ars t W A o) (v : VLD V rc t W A o B) (hB : B < 800000) {x y : Int32} (K : ∀ (I2 : xI) (L2 : xL), MST I2 L2 (spEnem V x y false).2 rc ars t W A o → MFR I I2 L L2 → P (n, sh, 0, 0) I2 R L2 (some (.int (spEnem V x y false).1))) : XM T zX10_enemies 2 [.ref 137, .int x, .int y, .int 0] n sh I R L P := by
  have e86 := v.1.2.2
  exact m_enemies0 hM h.1 v.1.1 (fun I2 f p => K I2 L (h.mvP f p) ⟨fun a q => p.1 a (by omega), fun _ _ => rfl⟩)

set_option maxHeartbeats 4000000 in
set_option maxRecDepth 100000 in
theorem D_enemies1 {T : xT} {n : Nat} {sh : Nat → Nat × Nat} {I : xI} {R : xR} {L : xL} {P : xPost} {V : xV} {rc : Nat} {ars : Nat → xAR} {t : xX} {W : xW} {A : List Nat} {o : Option xV} {B : Nat} (hM : xModel sh R 137) (h : MST I L V rc ars t W A o) (v : VLD V rc t W A o B) (hB : B < 800000) {x y : Int32} (K : ∀ (I2 : xI) (L2 : xL), MST I2 L2 (spEnem V x y true).2 rc ars t W A o → MFR I I2 L L2 → P (n, sh, 0, 0) I2 R L2 (some (.int (spEnem V x y true).1))) : XM T zX10_enemies 2 [.ref 137, .int x, .int y, .int 1] n sh I R L P := by
  have e86 := v.1.2.2
  exact m_enemies1 hM h.1 v.1.1 (fun I2 f p => K I2 L (h.mvP f p) ⟨fun a q => p.1 a (by omega), fun _ _ => rfl⟩)

set_option maxHeartbeats 4000000 in
set_option maxRecDepth 100000 in
theorem D_tamer {T : xT} {n : Nat} {sh : Nat → Nat × Nat} {I : xI} {R : xR} {L : xL} {P : xPost} {V : xV} {rc : Nat} {ars : Nat → xAR} {t : xX} {W : xW} {A : List Nat} {o : Option xV} {B : Nat} (hM : xModel sh R 137) (h : MST I L V rc ars t W A o) (v : VLD V rc t W A o B) (hB : B < 800000) {x : Int32} (K : ∀ (I2 : xI) (L2 : xL), MST I2 L2 (spTamer V x).2 rc ars t W A o → MFR I I2 L L2 → P (n, sh, 0, 0) I2 R L2 (some (.int (spTamer V x).1))) : XM T zX10_tamer 2 [.ref 137, .int x] n sh I R L P := by
  have e86 := v.1.2.2
  refine m_tamer hM h.1 v.1.1 (fun I2 f k1 k2 => ?_)
  have p : mdP 137 I I2 := ⟨fun a q => k1 a (by omega), fun k q => k2 k (by omega)⟩
  exact K I2 L (h.mvP f p) ⟨fun a q => p.1 a (by omega), fun _ _ => rfl⟩

set_option maxHeartbeats 4000000 in
set_option maxRecDepth 100000 in
theorem D_thunder {T : xT} {n : Nat} {sh : Nat → Nat × Nat} {I : xI} {R : xR} {L : xL} {P : xPost} {V : xV} {rc : Nat} {ars : Nat → xAR} {t : xX} {W : xW} {A : List Nat} {o : Option xV} {B : Nat} (hM : xModel sh R 137) (h : MST I L V rc ars t W A o) (v : VLD V rc t W A o B) (hB : B < 800000) {x : Int32} (K : ∀ (I2 : xI) (L2 : xL), MST I2 L2 (spThunder V x).2 rc ars t W A o → MFR I I2 L L2 → P (n, sh, 0, 0) I2 R L2 (some (.int (spThunder V x).1))) : XM T zX10_thunder 1 [.ref 137, .int x] n sh I R L P := by
  have e86 := v.1.2.2
  refine m_thunder hM h.1 v.1.1 (fun I2 f k1 k2 => ?_)
  have p : mdP 137 I I2 := ⟨fun a q => k1 a (by omega), fun k q => k2 k (by omega)⟩
  exact K I2 L (h.mvP f p) ⟨fun a q => p.1 a (by omega), fun _ _ => rfl⟩

set_option maxHeartbeats 4000000 in
set_option maxRecDepth 100000 in
theorem D_walk {T : xT} {n : Nat} {sh : Nat → Nat × Nat} {I : xI} {R : xR} {L : xL} {P : xPost} {V : xV} {rc : Nat} {ars : Nat → xAR} {t : xX} {W : xW} {A : List Nat} {o : Option xV} {B : Nat} (hM : xModel sh R 137) (h : MST I L V rc ars t W A o) (v : VLD V rc t W A o B) (hB : B < 800000) {x : Int32} (K : ∀ (I2 : xI) (L2 : xL), MST I2 L2 (spCome V 6 12 x).2 rc ars t W A o → MFR I I2 L L2 → P (n, sh, 0, 0) I2 R L2 (some (.int (spCome V 6 12 x).1))) : XM T zX10_walk 2 [.ref 137, .int x] n sh I R L P := by
  have e86 := v.1.2.2
  exact m_walkIt hM h.1 v.1.1 (fun I2 f p => K I2 L (h.mvP f p) ⟨fun a q => p.1 a (by omega), fun _ _ => rfl⟩)

set_option maxHeartbeats 4000000 in
set_option maxRecDepth 100000 in
theorem D_film {T : xT} {n : Nat} {sh : Nat → Nat × Nat} {I : xI} {R : xR} {L : xL} {P : xPost} {V : xV} {rc : Nat} {ars : Nat → xAR} {t : xX} {W : xW} {A : List Nat} {o : Option xV} {B : Nat} (hM : xModel sh R 137) (h : MST I L V rc ars t W A o) (v : VLD V rc t W A o B) (hB : B < 800000) {x : Int32} (K : ∀ (I2 : xI) (L2 : xL), MST I2 L2 (spCome V 7 10 x).2 rc ars t W A o → MFR I I2 L L2 → P (n, sh, 0, 0) I2 R L2 (some (.int (spCome V 7 10 x).1))) : XM T zX10_film 2 [.ref 137, .int x] n sh I R L P := by
  have e86 := v.1.2.2
  exact m_filmIt hM h.1 v.1.1 (fun I2 f p => K I2 L (h.mvP f p) ⟨fun a q => p.1 a (by omega), fun _ _ => rfl⟩)

set_option maxHeartbeats 4000000 in
set_option maxRecDepth 100000 in
theorem D_go {T : xT} {n : Nat} {sh : Nat → Nat × Nat} {I : xI} {R : xR} {L : xL} {P : xPost} {V : xV} {rc : Nat} {ars : Nat → xAR} {t : xX} {W : xW} {A : List Nat} {o : Option xV} {B : Nat} (hM : xModel sh R 137) (h : MST I L V rc ars t W A o) (v : VLD V rc t W A o B) (hB : B < 800000) {x : Int32} (K : ∀ (I2 : xI) (L2 : xL), MST I2 L2 (spGo V (rgVal ars V) x).2 rc ars t W A o → MFR I I2 L L2 → P (n, sh, 0, 0) I2 R L2 (some (.int (spGo V (rgVal ars V) x).1))) : XM T zX10_go 6 [.ref 137, .int x] n sh I R L P := by
  have e86 := v.1.2.2
  exact m_go hM h.1 v.1.1 hB h.2.1 e86 (fun I2 f p => K I2 L (h.mvP f p) ⟨fun a q => p.1 a (by omega), fun _ _ => rfl⟩)

set_option maxHeartbeats 4000000 in
set_option maxRecDepth 100000 in
theorem D_of {T : xT} {n : Nat} {sh : Nat → Nat × Nat} {I : xI} {R : xR} {L : xL} {P : xPost} {V : xV} {rc : Nat} {ars : Nat → xAR} {t : xX} {W : xW} {A : List Nat} {o : Option xV} {B : Nat} (hM : xModel sh R 137) (h : MST I L V rc ars t W A o) (v : VLD V rc t W A o B) (hB : B < 800000) {x y : Int32} (K : ∀ (I2 : xI) (L2 : xL), MST I2 L2 V rc ars t W A o → MFR I I2 L L2 → P (n, sh, 0, 0) I2 R L2 (some (.int (spOf V (rgVal ars V) x y)))) : XM T zX10_of 5 [.ref 137, .int x, .int y] n sh I R L P := by
  have e86 := v.1.2.2
  exact m_of hM h.1 v.1.1 hB h.2.1 e86 (fun I2 f p => K I2 L (h.mvP f p) ⟨fun a q => p.1 a (by omega), fun _ _ => rfl⟩)

set_option maxHeartbeats 4000000 in
set_option maxRecDepth 100000 in
theorem D_safe {T : xT} {n : Nat} {sh : Nat → Nat × Nat} {I : xI} {R : xR} {L : xL} {P : xPost} {V : xV} {rc : Nat} {ars : Nat → xAR} {t : xX} {W : xW} {A : List Nat} {o : Option xV} {B : Nat} (hM : xModel sh R 137) (h : MST I L V rc ars t W A o) (v : VLD V rc t W A o B) (hB : B < 800000) (K : ∀ (I2 : xI) (L2 : xL), MST I2 L2 V rc ars t W A o → MFR I I2 L L2 → P (n, sh, 0, 0) I2 R L2 (some (.long (spSafe V (rgVal ars V))))) : XM T zX10_safe 6 [.ref 137] n sh I R L P := by
  have e86 := v.1.2.2
  exact m_safe hM h.1 v.1.1 hB h.2.1 e86 (fun I2 f p => K I2 L (h.mvP f p) ⟨fun a q => p.1 a (by omega), fun _ _ => rfl⟩)

set_option maxHeartbeats 4000000 in
set_option maxRecDepth 100000 in
theorem D_from {T : xT} {n : Nat} {sh : Nat → Nat × Nat} {I : xI} {R : xR} {L : xL} {P : xPost} {V : xV} {rc : Nat} {ars : Nat → xAR} {t : xX} {W : xW} {A : List Nat} {o : Option xV} {B : Nat} (hM : xModel sh R 137) (h : MST I L V rc ars t W A o) (v : VLD V rc t W A o B) (hB : B < 800000) {x : Int32} (K : ∀ (I2 : xI) (L2 : xL), MST I2 L2 V rc ars t W A o → MFR I I2 L L2 → P (n, sh, 0, 0) I2 R L2 (some (.int (spFrom V (rgVal ars V) x)))) : XM T zX10_from 6 [.ref 137, .int x] n sh I R L P := by
  have e86 := v.1.2.2
  exact m_from hM h.1 v.1.1 hB h.2.1 e86 (fun I2 f p => K I2 L (h.mvP f p) ⟨fun a q => p.1 a (by omega), fun _ _ => rfl⟩)

set_option maxHeartbeats 4000000 in
set_option maxRecDepth 100000 in
theorem D_gone {T : xT} {n : Nat} {sh : Nat → Nat × Nat} {I : xI} {R : xR} {L : xL} {P : xPost} {V : xV} {rc : Nat} {ars : Nat → xAR} {t : xX} {W : xW} {A : List Nat} {o : Option xV} {B : Nat} (hM : xModel sh R 137) (h : MST I L V rc ars t W A o) (v : VLD V rc t W A o B) (hB : B < 800000) {x : Int32} (K : ∀ (I2 : xI) (L2 : xL), MST I2 L2 V rc ars t W A o → MFR I I2 L L2 → P (n, sh, 0, 0) I2 R L2 (some (.int (spGone V (rgVal ars V) x)))) : XM T zX10_gone 6 [.ref 137, .int x] n sh I R L P := by
  have e86 := v.1.2.2
  exact m_gone hM h.1 v.1.1 hB h.2.1 e86 (fun I2 f p => K I2 L (h.mvP f p) ⟨fun a q => p.1 a (by omega), fun _ _ => rfl⟩)

set_option maxHeartbeats 4000000 in
set_option maxRecDepth 100000 in
theorem D_sit {T : xT} {n : Nat} {sh : Nat → Nat × Nat} {I : xI} {R : xR} {L : xL} {P : xPost} {V : xV} {rc : Nat} {ars : Nat → xAR} {t : xX} {W : xW} {A : List Nat} {o : Option xV} {B : Nat} (hM : xModel sh R 137) (h : MST I L V rc ars t W A o) (v : VLD V rc t W A o B) (hB : B < 800000) (K : ∀ (I2 : xI) (L2 : xL), MST I2 L2 V rc ars t W A o → MFR I I2 L L2 → P (n, sh, 0, 0) I2 R L2 (some (.int (spSit V (rgVal ars V))))) : XM T zX10_sit 6 [.ref 137] n sh I R L P := by
  have e86 := v.1.2.2
  exact m_sit hM h.1 v.1.1 hB h.2.1 e86 (fun I2 f p => K I2 L (h.mvP f p) ⟨fun a q => p.1 a (by omega), fun _ _ => rfl⟩)

set_option maxHeartbeats 4000000 in
set_option maxRecDepth 100000 in
theorem D_line {T : xT} {n : Nat} {sh : Nat → Nat × Nat} {I : xI} {R : xR} {L : xL} {P : xPost} {V : xV} {rc : Nat} {ars : Nat → xAR} {t : xX} {W : xW} {A : List Nat} {o : Option xV} {B : Nat} (hM : xModel sh R 137) (h : MST I L V rc ars t W A o) (v : VLD V rc t W A o B) (hB : B < 800000) {x : Int32} (K : ∀ (I2 : xI) (L2 : xL), MST I2 L2 V rc ars t W A o → MFR I I2 L L2 → P (n, sh, 0, 0) I2 R L2 (some (.int (spLine V (rgVal ars V) x)))) : XM T zX10_line 6 [.ref 137, .int x] n sh I R L P := by
  have e86 := v.1.2.2
  exact m_line hM h.1 v.1.1 hB h.2.1 e86 (fun I2 f p => K I2 L (h.mvP f p) ⟨fun a q => p.1 a (by omega), fun _ _ => rfl⟩)

set_option maxHeartbeats 4000000 in
set_option maxRecDepth 100000 in
theorem D_calm {T : xT} {n : Nat} {sh : Nat → Nat × Nat} {I : xI} {R : xR} {L : xL} {P : xPost} {V : xV} {rc : Nat} {ars : Nat → xAR} {t : xX} {W : xW} {A : List Nat} {o : Option xV} {B : Nat} (hM : xModel sh R 137) (h : MST I L V rc ars t W A o) (v : VLD V rc t W A o B) (hB : B < 800000) {x y : Int32} (K : ∀ (I2 : xI) (L2 : xL), MST I2 L2 V rc ars t W A o → MFR I I2 L L2 → P (n, sh, 0, 0) I2 R L2 (some (.long (spCalm V (rgVal ars V) x y)))) : XM T zX10_calm 7 [.ref 137, .int x, .int y] n sh I R L P := by
  have e86 := v.1.2.2
  exact m_calm hM h.1 v.1.1 hB h.2.1 e86 (fun I2 f p => K I2 L (h.mvP f p) ⟨fun a q => p.1 a (by omega), fun _ _ => rfl⟩)

set_option maxHeartbeats 4000000 in
set_option maxRecDepth 100000 in
theorem D_kinds {T : xT} {n : Nat} {sh : Nat → Nat × Nat} {I : xI} {R : xR} {L : xL} {P : xPost} {V : xV} {rc : Nat} {ars : Nat → xAR} {t : xX} {W : xW} {A : List Nat} {o : Option xV} {B : Nat} (hM : xModel sh R 137) (h : MST I L V rc ars t W A o) (v : VLD V rc t W A o B) (hB : B < 800000) {x : Int32} (K : ∀ (I2 : xI) (L2 : xL), MST I2 L2 V rc ars t W A o → MFR I I2 L L2 → P (n, sh, 0, 0) I2 R L2 (some (.int (spKinds V (rgVal ars V) x)))) : XM T zX10_kinds 7 [.ref 137, .int x] n sh I R L P := by
  have e86 := v.1.2.2
  exact m_kinds hM h.1 v.1.1 hB h.2.1 e86 (fun I2 f p => K I2 L (h.mvP f p) ⟨fun a q => p.1 a (by omega), fun _ _ => rfl⟩)

set_option maxHeartbeats 4000000 in
set_option maxRecDepth 100000 in
theorem D_judge {T : xT} {n : Nat} {sh : Nat → Nat × Nat} {I : xI} {R : xR} {L : xL} {P : xPost} {V : xV} {rc : Nat} {ars : Nat → xAR} {t : xX} {W : xW} {A : List Nat} {o : Option xV} {B : Nat} (hM : xModel sh R 137) (h : MST I L V rc ars t W A o) (v : VLD V rc t W A o B) (hB : B < 800000) {x y z : Int32} (K : ∀ (I2 : xI) (L2 : xL), MST I2 L2 V rc ars t W A o → MFR I I2 L L2 → P (n, sh, 0, 0) I2 R L2 (some (.int (spJudge V (rgVal ars V) W x y z)))) : XM T zX10_judge 6 [.ref 137, .int x, .int y, .int z] n sh I R L P := by
  have e86 := v.1.2.2
  exact m_judgeIt hM h.1 v.1.1 hB h.2.1 e86 h.2.2.2.2.2.1 v.2.2.1 (fun I2 f p => K I2 L (h.mvP f p) ⟨fun a q => p.1 a (by omega), fun _ _ => rfl⟩)

set_option maxHeartbeats 4000000 in
set_option maxRecDepth 100000 in
theorem D_shortest {T : xT} {n : Nat} {sh : Nat → Nat × Nat} {I : xI} {R : xR} {L : xL} {P : xPost} {V : xV} {rc : Nat} {ars : Nat → xAR} {t : xX} {W : xW} {A : List Nat} {o : Option xV} {B : Nat} (hM : xModel sh R 137) (h : MST I L V rc ars t W A o) (v : VLD V rc t W A o B) (hB : B < 800000) {x y : Int32} (K : ∀ (I2 : xI) (L2 : xL), MST I2 L2 V rc ars t W A o → MFR I I2 L L2 → P (n, sh, 0, 0) I2 R L2 (some (.int (spShort V (rgVal ars V) x y)))) : XM T zX10_shortest 7 [.ref 137, .int x, .int y] n sh I R L P := by
  have e86 := v.1.2.2
  exact m_shortestIt hM h.1 v.1.1 hB h.2.1 e86 (fun I2 f p => K I2 L (h.mvP f p) ⟨fun a q => p.1 a (by omega), fun _ _ => rfl⟩)

set_option maxHeartbeats 4000000 in
set_option maxRecDepth 100000 in
theorem D_seats {T : xT} {n : Nat} {sh : Nat → Nat × Nat} {I : xI} {R : xR} {L : xL} {P : xPost} {V : xV} {rc : Nat} {ars : Nat → xAR} {t : xX} {W : xW} {A : List Nat} {o : Option xV} {B : Nat} (hM : xModel sh R 137) (h : MST I L V rc ars t W A o) (v : VLD V rc t W A o B) (hB : B < 800000) {x : Int32} (K : ∀ (I2 : xI) (L2 : xL), MST I2 L2 V rc ars t W A o → MFR I I2 L L2 → P (n, sh, 0, 0) I2 R L2 (some (.int (spSeats V x)))) : XM T zX10_seats 3 [.ref 137, .int x] n sh I R L P := by
  have e86 := v.1.2.2
  exact m_seatsIt hM h.1 v.1.1 v.1.2.1 (fun I2 f p => K I2 L (h.mvP f p) ⟨fun a q => p.1 a (by omega), fun _ _ => rfl⟩)

set_option maxHeartbeats 4000000 in
set_option maxRecDepth 100000 in
theorem D_feed {T : xT} {n : Nat} {sh : Nat → Nat × Nat} {I : xI} {R : xR} {L : xL} {P : xPost} {V : xV} {rc : Nat} {ars : Nat → xAR} {t : xX} {W : xW} {A : List Nat} {o : Option xV} {B : Nat} (hM : xModel sh R 137) (h : MST I L V rc ars t W A o) (v : VLD V rc t W A o B) (hB : B < 800000) {x y : Int32} (K : ∀ (I2 : xI) (L2 : xL), MST I2 L2 V rc ars (spFeed t x y).2 W A o → MFR I I2 L L2 → P (n, sh, 0, 0) I2 R L2 (some (.int (spFeed t x y).1))) : XM T zX10_feed 1 [.ref 137, .int x, .int y] n sh I R L P := by
  have e86 := v.1.2.2
  exact m_feedIt hM h.2.2.2.1 v.2.1.1 (fun I2 f k1 k2 => K I2 L (h.mvF f (fun a p q => k1 a p (by omega)) k2) ⟨fun a p => k1 a (by omega) (by omega), fun _ _ => rfl⟩)

set_option maxHeartbeats 4000000 in
set_option maxRecDepth 100000 in
theorem D_act {T : xT} {n : Nat} {sh : Nat → Nat × Nat} {I : xI} {R : xR} {L : xL} {P : xPost} {V : xV} {rc : Nat} {ars : Nat → xAR} {t : xX} {W : xW} {A : List Nat} {o : Option xV} {B : Nat} (hM : xModel sh R 137) (h : MST I L V rc ars t W A o) (v : VLD V rc t W A o B) (hB : B < 800000) {x y z : Int32} (K : ∀ (I2 : xI) (L2 : xL), MST I2 L2 V rc ars t W (spAct V x y z).2 o → MFR I I2 L L2 → P (n, sh, 0, 0) I2 R L2 (some (.int (spAct V x y z).1))) : XM T zX10_act 9 [.ref 137, .int x, .int y, .int z] n sh I R L P := by
  have e86 := v.1.2.2
  exact m_actIt hM h.1 v.1.1 (fun I2 f p => K I2 L (h.mvA f p) ⟨fun a q => p.1 a (by omega) (by omega), fun _ _ => rfl⟩)

set_option maxHeartbeats 4000000 in
set_option maxRecDepth 100000 in
theorem D_trace {T : xT} {n : Nat} {sh : Nat → Nat × Nat} {I : xI} {R : xR} {L : xL} {P : xPost} {V : xV} {rc : Nat} {ars : Nat → xAR} {t : xX} {W : xW} {A : List Nat} {o : Option xV} {B : Nat} (hM : xModel sh R 137) (h : MST I L V rc ars t W A o) (v : VLD V rc t W A o B) (hB : B < 800000) {x : Int32} (K : ∀ (I2 : xI) (L2 : xL), MST I2 L2 V rc ars t W A o → MFR I I2 L L2 → P (n, sh, 0, 0) I2 R L2 (some (.int (spTrace A.length (fun i => A.getD i 0) x)))) : XM T zX10_trace 1 [.ref 137, .int x] n sh I R L P := by
  have e86 := v.1.2.2
  have hmn : mn A.length 20 = A.length := by
    have := v.2.2.2.1
    unfold mn
    rw [if_neg (by omega)]
  have h7 := h.2.2.2.2.2.2.1
  have h9 := m_trace (T := T) (n := n) (sh := sh) (R := R) (L := L) (P := P) (I := I) (f := fun i => A.getD i 0) (x := x) hM (r := A.length) (by have := v.2.2.2.1; omega) h7.1 (fun i hi => h7.2 i (by rw [hmn] at hi; exact hi))
  rw [hmn] at h9
  exact h9 (K I L h ⟨fun _ _ => rfl, fun _ _ => rfl⟩)

set_option maxHeartbeats 4000000 in
set_option maxRecDepth 100000 in
theorem D_taken {T : xT} {n : Nat} {sh : Nat → Nat × Nat} {I : xI} {R : xR} {L : xL} {P : xPost} {V : xV} {rc : Nat} {ars : Nat → xAR} {t : xX} {W : xW} {A : List Nat} {o : Option xV} {B : Nat} (hM : xModel sh R 137) (h : MST I L V rc ars t W A o) (v : VLD V rc t W A o B) (hB : B < 800000) {x y : Int32} (K : ∀ (I2 : xI) (L2 : xL), MST I2 L2 V rc ars t W A o → MFR I I2 L L2 → P (n, sh, 0, 0) I2 R L2 (some (.int (spTaken V x y)))) : XM T zX10_taken 2 [.ref 137, .int x, .int y] n sh I R L P := by
  have e86 := v.1.2.2
  exact m_taken hM h.1 v.1.1 (K I L h ⟨fun _ _ => rfl, fun _ _ => rfl⟩)

set_option maxHeartbeats 4000000 in
set_option maxRecDepth 100000 in
theorem D_count {T : xT} {n : Nat} {sh : Nat → Nat × Nat} {I : xI} {R : xR} {L : xL} {P : xPost} {V : xV} {rc : Nat} {ars : Nat → xAR} {t : xX} {W : xW} {A : List Nat} {o : Option xV} {B : Nat} (hM : xModel sh R 137) (h : MST I L V rc ars t W A o) (v : VLD V rc t W A o B) (hB : B < 800000) {x : Int32} (K : ∀ (I2 : xI) (L2 : xL), MST I2 L2 V rc ars t W A o → MFR I I2 L L2 → P (n, sh, 0, 0) I2 R L2 (some (.int (spCount V rc t.1 A.length x)))) : XM T zX10_count 0 [.ref 137, .int x] n sh I R L P := by
  have e86 := v.1.2.2
  exact m_count hM h.1 h.2.1.2.1 h.2.2.2.1.1 h.2.2.2.2.2.2.1.1 (K I L h ⟨fun _ _ => rfl, fun _ _ => rfl⟩)

set_option maxHeartbeats 4000000 in
set_option maxRecDepth 100000 in
theorem D_tape {T : xT} {n : Nat} {sh : Nat → Nat × Nat} {I : xI} {R : xR} {L : xL} {P : xPost} {V : xV} {rc : Nat} {ars : Nat → xAR} {t : xX} {W : xW} {A : List Nat} {o : Option xV} {B : Nat} (hM : xModel sh R 137) (h : MST I L V rc ars t W A o) (v : VLD V rc t W A o B) (hB : B < 800000) {x y z : Int32} (K : ∀ (I2 : xI) (L2 : xL), MST I2 L2 V rc ars t (spTape W x y z).2 A o → MFR I I2 L L2 → P (n, sh, 0, 0) I2 R L2 (some (.int (spTape W x y z).1))) : XM T zX10_tape 2 [.ref 137, .int x, .int y, .int z] n sh I R L P := by
  have e86 := v.1.2.2
  exact m_tapeIt hM h.2.2.2.2.2.1 v.2.2.1 (fun I2 L2 f p l => K I2 L2 (h.mvW f p) ⟨fun a q => p a (by omega) (by omega), fun a q => l a (by omega) (by omega)⟩)

set_option maxHeartbeats 4000000 in
set_option maxRecDepth 100000 in
theorem D_item {T : xT} {n : Nat} {sh : Nat → Nat × Nat} {I : xI} {R : xR} {L : xL} {P : xPost} {V : xV} {rc : Nat} {ars : Nat → xAR} {t : xX} {W : xW} {A : List Nat} {o : Option xV} {B : Nat} (hM : xModel sh R 137) (h : MST I L V rc ars t W A o) (v : VLD V rc t W A o B) (hB : B < 800000) {x y : Int32} {w : Int64} (K : ∀ (I2 : xI) (L2 : xL), MST I2 L2 V rc ars t (spItem W x y w).2 A o → MFR I I2 L L2 → P (n, sh, 0, 0) I2 R L2 (some (.int (spItem W x y w).1))) : XM T zX10_item 2 [.ref 137, .int x, .int y, .long w] n sh I R L P := by
  have e86 := v.1.2.2
  exact m_itemIt hM h.2.2.2.2.2.1 v.2.2.1 (fun I2 L2 f p l => K I2 L2 (h.mvW f p) ⟨fun a q => p a (by omega) (by omega), fun a q => l a (by omega) (by omega)⟩)

set_option maxHeartbeats 4000000 in
set_option maxRecDepth 100000 in
theorem D_shift {T : xT} {n : Nat} {sh : Nat → Nat × Nat} {I : xI} {R : xR} {L : xL} {P : xPost} {V : xV} {rc : Nat} {ars : Nat → xAR} {t : xX} {W : xW} {A : List Nat} {o : Option xV} {B : Nat} (hM : xModel sh R 137) (h : MST I L V rc ars t W A o) (v : VLD V rc t W A o B) (hB : B < 800000) {x y z w u : Int32} (K : ∀ (I2 : xI) (L2 : xL), MST I2 L2 V rc ars t (spShift W x y z w u).2 A o → MFR I I2 L L2 → P (n, sh, 0, 0) I2 R L2 (some (.int (spShift W x y z w u).1))) : XM T zX10_shift 2 [.ref 137, .int x, .int y, .int z, .int w, .int u] n sh I R L P := by
  have e86 := v.1.2.2
  exact m_shiftIt hM h.2.2.2.2.2.1 v.2.2.1 (fun I2 L2 f p l => K I2 L2 (h.mvW f p) ⟨fun a q => p a (by omega) (by omega), fun a q => l a (by omega) (by omega)⟩)

set_option maxHeartbeats 4000000 in
set_option maxRecDepth 100000 in
theorem D_read {T : xT} {n : Nat} {sh : Nat → Nat × Nat} {I : xI} {R : xR} {L : xL} {P : xPost} {V : xV} {rc : Nat} {ars : Nat → xAR} {t : xX} {W : xW} {A : List Nat} {o : Option xV} {B : Nat} (hM : xModel sh R 137) (h : MST I L V rc ars t W A o) (v : VLD V rc t W A o B) (hB : B < 800000) {x y : Int32} (K : ∀ (I2 : xI) (L2 : xL), MST I2 L2 V rc ars t W A o → MFR I I2 L L2 → P (n, sh, 0, 0) I2 R L2 (some (.long (spRead W x y)))) : XM T zX10_read 2 [.ref 137, .int x, .int y] n sh I R L P := by
  have e86 := v.1.2.2
  exact m_readIt hM h.2.2.2.2.2.1 v.2.2.1 (K I L h ⟨fun _ _ => rfl, fun _ _ => rfl⟩)

set_option maxHeartbeats 4000000 in
set_option maxRecDepth 100000 in
theorem D_image {T : xT} {n : Nat} {sh : Nat → Nat × Nat} {I : xI} {R : xR} {L : xL} {P : xPost} {V : xV} {rc : Nat} {ars : Nat → xAR} {t : xX} {W : xW} {A : List Nat} {o : Option xV} {B : Nat} (hM : xModel sh R 137) (h : MST I L V rc ars t W A o) (v : VLD V rc t W A o B) (hB : B < 800000) (K : ∀ (I2 : xI) (L2 : xL), MST I2 L2 V rc ars t W A (some V) → MFR I I2 L L2 → P (n, sh, 0, 0) I2 R L2 (some (.int (nI (V 8 0))))) : XM T zX10_image 1 [.ref 137] n sh I R L P := by
  have e86 := v.1.2.2
  refine m_image hM h.1 v.1.1 (fun I2 f g e k1 k2 => K I2 L ?_ ⟨fun a p => k1 a (by omega) (by omega), fun _ _ => rfl⟩)
  obtain ⟨h1, h2, h3, h4, h5, h6, h7, h8⟩ := h
  exact ⟨f, h2.row (k2 10 (by omega)) (fun a q r => k1 a (by omega) (by omega)), h3.keep (k1 _ (by omega) (by omega)) (k1 _ (by omega) (by omega)), h4.keepU (k2 12 (by omega)) (k1 _ (by omega) (by omega)), h5.keep (k1 _ (by omega) (by omega)), h6.keep (k1 _ (by omega) (by omega)) (k1 _ (by omega) (by omega)), h7.keepU (k2 64 (by omega)) (k1 _ (by omega) (by omega)), e, g⟩

set_option maxHeartbeats 4000000 in
set_option maxRecDepth 100000 in
theorem D_undo {T : xT} {n : Nat} {sh : Nat → Nat × Nat} {I : xI} {R : xR} {L : xL} {P : xPost} {V : xV} {rc : Nat} {ars : Nat → xAR} {t : xX} {W : xW} {A : List Nat} {o : Option xV} {B : Nat} (hM : xModel sh R 137) (h : MST I L V rc ars t W A o) (v : VLD V rc t W A o B) (hB : B < 800000) (K0 : o = none → P (n, sh, 0, 0) I R L (some (.int (-3)))) (K1 : ∀ (U : xV) (I2 : xI), o = some U → MST I2 L U rc ars t W A o → MFR I I2 L L → P (n, sh, 0, 0) I2 R L (some (.int (nI (U 8 0))))) : XM T zX10_undo 1 [.ref 137] n sh I R L P := by
  cases o with
  | none => exact m_undo0 hM h.2.2.2.2.2.2.2 (K0 rfl)
  | some U => exact m_undo1 hM h.2.2.2.2.2.2.2.2 (v.2.2.2.2 U rfl).1 h.2.2.2.2.2.2.2.1 (fun I2 f p => K1 U I2 rfl (h.mvP f p) ⟨fun a q => p.1 a (by omega), fun _ _ => rfl⟩)

set_option maxHeartbeats 4000000 in
set_option maxRecDepth 100000 in
theorem D_ring {T : xT} {n : Nat} {sh : Nat → Nat × Nat} {I : xI} {R : xR} {L : xL} {P : xPost} {V : xV} {rc : Nat} {ars : Nat → xAR} {t : xX} {W : xW} {A : List Nat} {o : Option xV} {B : Nat} (hM : xModel sh R 137) (h : MST I L V rc ars t W A o) (v : VLD V rc t W A o B) (hB : B < 800000) {r : xCQ (List xCL)} (hr : rc < 6 → RLN (nxX t) t.1 8 0 [] r) (K6 : rc = 6 → P (n, sh, 0, 0) I R L (some (.int (-4)))) (K0 : ∀ (q : Nat) (I2 : xI), rc < 6 → r = (q, none) → MST I2 L V rc ars (0, t.2) W A o → MFR I I2 L L → P (n, sh, 0, 0) I2 R L (some (.int (-10 - nI q)))) (K1 : ∀ (acc : List xCL) (I2 : xI), rc < 6 → r = (t.1, some acc) → MST I2 L (up2 V 8 6 (rc + 1)) (rc + 1) (arsN ars rc (arOf acc)) (0, t.2) W A o → MFR I I2 L L → P (n, sh, 0, 0) I2 R L (some (.int (nI rc)))) : XM T zX10_ring 7 [.ref 137] n sh I R L P := by
  obtain ⟨h1, h2, h3, h4, h5, h6, h7, h8⟩ := h
  refine m_ringIt hM v.2.1 h4 h5 h2.2.1 h2.1 hr K6 (fun q J h6' e hq e12 e10 e11 m => K0 q J h6' e ?_ ⟨fun a p => m.1 a (by omega), fun _ _ => rfl⟩) (fun acc s J h6' e hk e12 e10 e11 hn hc hl m => K1 acc J h6' e ?_ ⟨fun a p => m.1 a (by omega), fun _ _ => rfl⟩)
  · refine ⟨h1.keep (fun k q => ?_) (fun j _ => m.1 _ (by omega)), h2.q h3 m e10, h3.old (fun j hj => (h2.2.2 j hj).2.1) m, ⟨e12, fun i hi => absurd hi (Nat.not_lt_zero i)⟩, h5.keep (m.1 _ (by omega)), h6.keep (m.1 _ (by omega)) (m.1 _ (by omega)), h7.keepU (m.2.1 64 (by decide) (by decide) (by decide) (by decide) (by decide) (by decide) (by decide) (by decide)) (m.1 _ (by omega)), h8.keep (fun k _ _ => m.2.1 k (by omega) (by omega) (by omega) (by omega) (by omega) (by omega) (by omega) (by omega)) (fun a q _ => m.1 a (by omega))⟩
    by_cases z : k = 11
    · rw [z]
      exact e11
    · exact m.2.1 k (by omega) z (by omega) (by omega) (by omega) (by omega) (by omega) (by omega)
  · refine ⟨?_, h2.new h3 m h6' e10 hn, SGB.new h2 h3 m hc hl, ⟨e12, fun i hi => absurd hi (Nat.not_lt_zero i)⟩, h5.keep (m.1 _ (by omega)), h6.keep (m.1 _ (by omega)) (m.1 _ (by omega)), h7.keepU (m.2.1 64 (by decide) (by decide) (by decide) (by decide) (by decide) (by decide) (by decide) (by decide)) (m.1 _ (by omega)), h8.keep (fun k _ _ => m.2.1 k (by omega) (by omega) (by omega) (by omega) (by omega) (by omega) (by omega) (by omega)) (fun a q _ => m.1 a (by omega))⟩
    obtain ⟨d1, d2, d3, d4, d5, d6, d7, d8, d9, d10⟩ := h1
    have mf : ∀ k, (k < 4 ∨ k = 38 ∨ k = 46) → J 137 k = I 137 k := fun k q => m.2.1 k (by omega) (by omega) (by omega) (by omega) (by omega) (by omega) (by omega) (by omega)
    have kv : ∀ k, k ≠ 6 → up2 V 8 6 (rc + 1) 8 k = V 8 k := fun k q => up2_k q
    have kr : ∀ j, j ≠ 8 → up2 V 8 6 (rc + 1) j = V j := fun j q => up2_row q
    unfold MDV
    rw [kv 0 (by decide), kv 1 (by decide), kv 2 (by decide), kv 3 (by decide), kv 4 (by decide), kv 5 (by decide), up2_s, kr 6 (by decide), kr 7 (by decide)]
    refine ⟨(mf 0 (by omega)).trans d1, (mf 1 (by omega)).trans d2, (mf 2 (by omega)).trans d3, (mf 3 (by omega)).trans d4, (mf 38 (by omega)).trans d5, (mf 46 (by omega)).trans d6, e11.trans (nI_dec (by omega)).symm, fun j hj i hi => ?_, fun i hi => ?_, fun i hi => ?_⟩
    · rw [kr j (by omega)]
      exact (congrFun (m.1 _ (by omega)) i).trans (d8 j hj i hi)
    · exact (congrFun (m.1 _ (by omega)) i).trans (d9 i hi)
    · exact (congrFun (m.1 _ (by omega)) i).trans (d10 i hi)

