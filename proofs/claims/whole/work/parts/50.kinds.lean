/-! ===== kinds: the class ===== -/
theorem SC.setKind {sh : Nat → Nat × Nat} {R : xR} {I : xI} {b nb ta te lo : Nat} {ki ve ce sto hu : Nat → Nat} {LN : xLN} {i x : Nat} (h : SC sh R I b nb ki ve ce sto hu ta te lo LN) (hx : x < 7) : SC sh R (up2 I (b + 2) i (nI x)) b nb (fun j => if j = i then x else ki j) ve ce sto hu ta te lo LN := by
  obtain ⟨a1, a2, a3, a4, a5, a6, a7, a8, a9, a10, a11, a12, a13, a14, a15⟩ := h
  have k : ∀ j, j ≠ 2 → up2 I (b + 2) i (nI x) (b + j) = I (b + j) := fun j hj => up2_row (by omega)
  have k0 : up2 I (b + 2) i (nI x) b = I b := up2_row (by omega)
  refine ⟨a1, a2, a3.set rfl, a4.keep (k 3 (by omega)) (k 4 (by omega)), a5.keep (k 5 (by omega)) (k 6 (by omega)), a6.keep (k 7 (by omega)) (k 8 (by omega)), a7.keep (k 9 (by omega)) (k 10 (by omega)), fun j hj => ?_, by rw [k0]; exact a9, a10, by rw [k0]; exact a11, a12, by rw [k0]; exact a13, a14, a15.keep2 (fun a ha => up2_row (fun q => ?_))⟩
  · obtain ⟨b1, b2, b3, b4, b5⟩ := a8 j hj
    refine ⟨?_, b2, b3, b4, b5⟩
    show (if j = i then x else ki j) < 7
    split
    · exact hx
    · exact b1
  · have h6 := (by obtain ⟨_, _, _, _, _, _, _, _, _, _, _, w0, _⟩ := a1; exact w0.2.2.1 : sh (b + 2) = (1, 6))
    rw [q, h6] at ha
    revert ha
    decide
theorem trR.tr {tr : Nat} {R R' R'' : xR} (h : trR tr R R') (h' : trR tr R' R'') : trR tr R R'' := fun a k p => (h' a k p).trans (h a k p)
/-- the kind of b another -/
def setK (V : xV) (b z : Nat) : xV := fun j => if j = 0 then (fun i => if i = b then z else V 0 i) else V j
def kindP (V : xV) (o : Option xAR) (b z : Nat) : Bool := decide (∀ k, k < V 8 5 → goF (setK V b z) o (V 8 1) (k + 1) b = V 7 k)
def kdM (p : Nat → Bool) : Nat → Int32
  | 0 => 0
  | k + 1 => if p k = true then kdM p k ||| ((1 : Int32) <<< (nI k &&& 31)) else kdM p k
theorem kdM_t {p : Nat → Bool} {k : Nat} (h : p k = true) : kdM p (k + 1) = kdM p k ||| ((1 : Int32) <<< (nI k &&& 31)) := if_pos h
theorem kdM_f {p : Nat → Bool} {k : Nat} (h : p k = false) : kdM p (k + 1) = kdM p k := if_neg (by rw [h]; decide)
def spKinds (V : xV) (o : Option xAR) (x : Int32) : Int32 := match idx (V 8 0) x with
  | none => -1
  | some b => kdM (kindP V o b) 7
theorem spKinds_s {V : xV} {o : Option xAR} {b : Nat} (hb : b < V 8 0) (h6 : V 8 0 ≤ 6) : spKinds V o (nI b) = kdM (kindP V o b) 7 := by
  unfold spKinds
  rw [idx_s hb (by omega)]
theorem spKinds_n {V : xV} {o : Option xAR} {x : Int32} (h : x < 0 ∨ nI (V 8 0) ≤ x) : spKinds V o x = -1 := by
  unfold spKinds
  rw [idx_n h]

set_option maxHeartbeats 4000000 in
set_option maxRecDepth 100000 in
theorem l_film {T : xT} {n : Nat} {sh : Nat → Nat × Nat} {I : xI} {R : xR} {L : xL} {P : xPost} {lr nw im tr rd hu se ac M : Nat} (hG : GEO sh R lr nw im tr rd hu se ac M) {W : xV} {o : Option xAR} {m b : Nat} {f : Nat → Nat} (v6 : W 8 0 ≤ 6) (hte : W 8 2 + 20 < 1000000) (hm : m ≤ 10) (hfl : ∀ i, i < m → f i < 36) (hb : b < W 8 0) (hf : bRow I (nw + 15) m f) (K1 : ∀ J : xI, (∀ k, k < m → goF W o (W 8 1) (k + 1) b = f k) → trP tr I J → P (n, sh, 0, 0) J R L (some (.int 1))) (K2 : ∀ J : xI, (∃ k, k < m ∧ ¬ goF W o (W 8 1) (k + 1) b = f k) → trP tr I J → P (n, sh, 0, 0) J R L (some (.int 0)))  : ∀ (w i : Nat), i + w = m → ∀ (J : xI), SC sh R J tr (W 8 0) (W 0) (W 1) (goF W o (W 8 1) i) (W 3) (W 4) (W 8 1) (W 8 2 + i) 0 (lnO o) → trP tr I J → (∀ k, k < i → goF W o (W 8 1) (k + 1) b = f k) → X T zX9_goesAsFilm 6 0 0 P 2 [(0, .ref lr), (1, .int (nI b)), (2, .int (nI i))] [] (n, sh, 0, 0) (J) R L := by
  have e1 := hG.g_e_nw
  have e2 := hG.g_e_tr
  have e3 := hG.g_e_x
  intro w
  induction w with
  | zero =>
    intro i hw J hj fj hy
    have hz : i = m := by omega
    have hr : bRow J (nw + 15) m f := hf.keep (fj _ (by omega)) (fj _ (by omega))
    refine x_iload_n (pc := 2) dX9_goesAsFilm_2 rfl rfl ?_
    refine x_aload_n (pc := 3) dX9_goesAsFilm_3 rfl rfl ?_
    refine x_getr (pc := 4) dX9_goesAsFilm_4 kf_RX9_12 hG.g_x rfl hG.g_f0 ?_
    refine x_getr (pc := 7) dX9_goesAsFilm_7 kf_RX9_280 hG.g_nw.1 rfl hG.g_nw.2.2.2.2.2.2.2.2.2.2.1 ?_
    refine x_get (pc := 10) dX9_goesAsFilm_10 kf_RX9_165 hG.g_nw.2.2.2.2.2.2.2.2.2.2.2.2.2.2.2.2.2.2.1 rfl ?_
    rw [hr.1]
    refine x_icmpn_ge_t (pc := 13) (tgt := 56) (a := i) (b := m) dX9_goesAsFilm_13 (by decide) (by omega) (by omega) (by omega) ?_
    refine x_iconst (pc := 56) (v := 1) dX9_goesAsFilm_56 (by decide) ?_
    refine x_ireturn (pc := 57) dX9_goesAsFilm_57 ⟨_, rfl, by decide⟩ ⟨Nat.le_refl _, Nat.le_refl _⟩ ?_
    exact K1 J (fun k hk => hy k (by omega)) fj
  | succ w ih =>
    intro i hw J hj fj hy
    have hi : i < m := by omega
    have hr : bRow J (nw + 15) m f := hf.keep (fj _ (by omega)) (fj _ (by omega))
    refine x_iload_n (pc := 2) dX9_goesAsFilm_2 rfl rfl ?_
    refine x_aload_n (pc := 3) dX9_goesAsFilm_3 rfl rfl ?_
    refine x_getr (pc := 4) dX9_goesAsFilm_4 kf_RX9_12 hG.g_x rfl hG.g_f0 ?_
    refine x_getr (pc := 7) dX9_goesAsFilm_7 kf_RX9_280 hG.g_nw.1 rfl hG.g_nw.2.2.2.2.2.2.2.2.2.2.1 ?_
    refine x_get (pc := 10) dX9_goesAsFilm_10 kf_RX9_165 hG.g_nw.2.2.2.2.2.2.2.2.2.2.2.2.2.2.2.2.2.2.1 rfl ?_
    rw [hr.1]
    refine x_icmpn_ge_f (pc := 13) (tgt := 56) (a := i) (b := m) dX9_goesAsFilm_13 (by decide) (by omega) (by omega) (by omega) ?_
    refine x_aload_n (pc := 16) dX9_goesAsFilm_16 rfl rfl ?_
    refine x_getr (pc := 17) dX9_goesAsFilm_17 kf_RX9_21 hG.g_x rfl hG.g_f2 ?_
    refine x_callV (pc := 20) (As := []) dX9_goesAsFilm_20 km_X6_passTenth kv_X6_passTenth kl_RX9_187 hG.g_tr.1 rfl rfl (by decide) ⟨Nat.le_refl _, Nat.le_refl _⟩ rfl (Nat.le_of_ble_eq_true rfl) (Nat.le_of_ble_eq_true rfl) (c_passTenth hj (by omega) (fun I2 h3 f2 => ⟨rfl, rfl, ?_⟩))
    have h3 := (show SC sh R I2 tr (W 8 0) (W 0) (W 1) (goF W o (W 8 1) (i + 1)) (W 3) (W 4) (W 8 1) (W 8 2 + (i + 1)) 0 (lnO o) from h3)
    have ff : trP tr I I2 := fun a ha => by rw [f2.1 a (by omega) (by omega) (by omega)]; exact fj a ha
    have q5 := h3.2.2.2.2.1
    have hr2 : bRow I2 (nw + 15) m f := hf.keep (ff _ (by omega)) (ff _ (by omega))
    have g1 := hfl i hi
    have g2 := (h3.2.2.2.2.2.2.2.1 b hb).2.2.1
    refine x_aload_n (pc := 23) dX9_goesAsFilm_23 rfl rfl ?_
    refine x_getr (pc := 24) dX9_goesAsFilm_24 kf_RX9_21 hG.g_x rfl hG.g_f2 ?_
    refine x_getr (pc := 27) dX9_goesAsFilm_27 kf_RX9_118 hG.g_tr.1 rfl hG.g_tr.2.2.2.2.2.1 ?_
    refine x_iload_n (pc := 30) dX9_goesAsFilm_30 rfl rfl ?_
    refine x_callV (pc := 31) (As := [.int _]) dX9_goesAsFilm_31 km_X5_at kv_X5_at kl_RX9_109 hG.g_tr.2.2.2.2.2.2.2.2.2.2.2.2.2.1.1 rfl rfl (by decide) ⟨Nat.le_refl _, Nat.le_refl _⟩ rfl (Nat.le_of_ble_eq_true rfl) (Nat.le_of_ble_eq_true rfl) (c_at (hG.g_tr.2.2.2.2.2.2.2.2.2.2.2.2.2.1) (⟨rfl, rfl, ?_⟩))
    rw [q5.1, rAt_in hb v6 (by decide), q5.2 _ hb]
    refine x_aload_n (pc := 34) dX9_goesAsFilm_34 rfl rfl ?_
    refine x_getr (pc := 35) dX9_goesAsFilm_35 kf_RX9_12 hG.g_x rfl hG.g_f0 ?_
    refine x_getr (pc := 38) dX9_goesAsFilm_38 kf_RX9_280 hG.g_nw.1 rfl hG.g_nw.2.2.2.2.2.2.2.2.2.2.1 ?_
    refine x_iload_n (pc := 41) dX9_goesAsFilm_41 rfl rfl ?_
    refine x_callV (pc := 42) (As := [.int _]) dX9_goesAsFilm_42 km_X5_at kv_X5_at kl_RX9_109 hG.g_nw.2.2.2.2.2.2.2.2.2.2.2.2.2.2.2.2.2.2.1 rfl rfl (by decide) ⟨Nat.le_refl _, Nat.le_refl _⟩ rfl (Nat.le_of_ble_eq_true rfl) (Nat.le_of_ble_eq_true rfl) (c_at (hG.g_nw.2.2.2.2.2.2.2.2.2.2.2.2.2.2.2.2.2.2) (⟨rfl, rfl, ?_⟩))
    rw [hr2.1, rAt_in hi hm (by decide), hr2.2 _ hi]
    refine x_icmpn_eq (pc := 45) (tgt := 50) (a := (goF W o (W 8 1) (i + 1) b)) (b := (f i)) dX9_goesAsFilm_45 (by decide) (by omega) (by omega) (fun c45 => ?_) (fun c45 => ?_)
    · skip
      refine x_iinc (pc := 50) (v := nI (i + 1)) (lv' := [(0, .ref lr), (1, .int (nI b)), (2, .int (nI (i + 1)))]) dX9_goesAsFilm_50 rfl (nI_1 _) (by decide) rfl ?_
      refine x_goto (pc := 53) (tgt := 2) dX9_goesAsFilm_53 (by decide) ?_
      exact ih (i + 1) (by omega) I2 h3 ff (fun k hk9 => (Nat.lt_succ_iff_lt_or_eq.mp hk9).elim (hy k) (fun e9 => by subst e9; exact c45))
    · skip
      refine x_iconst (pc := 48) (v := 0) dX9_goesAsFilm_48 (by decide) ?_
      refine x_ireturn (pc := 49) dX9_goesAsFilm_49 ⟨_, rfl, by decide⟩ ⟨Nat.le_refl _, Nat.le_refl _⟩ ?_
      exact K2 I2 ⟨i, hi, c45⟩ ff

set_option maxHeartbeats 4000000 in
set_option maxRecDepth 100000 in
theorem c_film {T : xT} {n : Nat} {sh : Nat → Nat × Nat} {I : xI} {R : xR} {L : xL} {P : xPost} {lr nw im tr rd hu se ac M : Nat} (hG : GEO sh R lr nw im tr rd hu se ac M) {W : xV} {o : Option xAR} {m b : Nat} {f : Nat → Nat} (v6 : W 8 0 ≤ 6) (hte : W 8 2 + 20 < 1000000) (hm : m ≤ 10) (hfl : ∀ i, i < m → f i < 36) (hb : b < W 8 0) (hf : bRow I (nw + 15) m f) (K1 : ∀ J : xI, (∀ k, k < m → goF W o (W 8 1) (k + 1) b = f k) → trP tr I J → P (n, sh, 0, 0) J R L (some (.int 1))) (K2 : ∀ J : xI, (∃ k, k < m ∧ ¬ goF W o (W 8 1) (k + 1) b = f k) → trP tr I J → P (n, sh, 0, 0) J R L (some (.int 0))) (h : SC sh R I tr (W 8 0) (W 0) (W 1) (W 2) (W 3) (W 4) (W 8 1) (W 8 2) 0 (lnO o))  : XM T zX9_goesAsFilm 6 [.ref lr, .int (nI b)] n sh I R L P := by
  refine x_iconst (pc := 0) (v := 0) dX9_goesAsFilm_0 (by decide) ?_
  refine x_istore_n (pc := 1) (lv' := [(0, .ref lr), (1, .int (nI b)), (2, .int 0)]) dX9_goesAsFilm_1 rfl (by decide) rfl ?_
  exact l_film hG v6 hte hm hfl hb hf K1 K2 m 0 (by omega) I h (fun _ _ => rfl) (fun k hk => absurd hk (by omega))

set_option maxHeartbeats 4000000 in
set_option maxRecDepth 100000 in
theorem l_kinds {T : xT} {n : Nat} {sh : Nat → Nat × Nat} {I : xI} {R : xR} {L : xL} {P : xPost} {lr nw im tr rd hu se ac M : Nat} (hG : GEO sh R lr nw im tr rd hu se ac M) {V : xV} {B rc : Nat} {ars : Nat → xAR} (h : FSC I nw V) (hv : VOK V B) (hB : B < 800000) (hr : cRings I lr rc ars) (hV6 : V 8 6 ≤ rc) (hRn : R nw 11 = rgRef V) {b : Nat} (hb : b < V 8 0) (K : ∀ (I2 : xI) (R2 : xR), trP tr I I2 → trR tr R R2 → P (n, sh, 0, 0) I2 R2 L (some (.int (spKinds V (rgVal ars V) (nI b)))))  : ∀ (w i : Nat), i + w = 7 → ∀ (J : xI) (Q : xR), trP tr I J → trR tr R Q → X T zX9_kinds 7 0 0 P 17 [(0, .ref lr), (1, .int (nI b)), (2, .int (kdM (kindP V (rgVal ars V) b) i)), (3, .int (nI i))] [] (n, sh, 0, 0) (J) Q L := by
  obtain ⟨v6, v12, v10, vb, vf, vw, vm, vta, vte, vod, vrg, vdi⟩ := id hv
  have e1 := hG.g_e_nw
  have e2 := hG.g_e_tr
  have e3 := hG.g_e_x
  intro w
  induction w with
  | zero =>
    intro i hw J Q fj fq
    have hz : i = 7 := by omega
    have hG := hG.keepR (fun a k hk => fq a k (Or.inr hk))
    have hfn : FSC J nw V := h.keepN hG fj
    have hrJ := hr.keep (congrFun (fj lr (by omega)) 6) (fun a p1 p2 => fj a (by omega))
    have hRQ : Q nw 11 = rgRef V := (fq nw 11 (Or.inl (by omega))).trans hRn
    refine x_iload_n (pc := 17) dX9_kinds_17 rfl rfl ?_
    refine x_bipush (pc := 18) (v := 7) dX9_kinds_18 (by decide) ?_
    refine x_icmpn_ge_t (pc := 20) (tgt := 66) (a := i) (b := 7) dX9_kinds_20 (by decide) (by omega) (by decide) (by omega) ?_
    refine x_iload_n (pc := 66) dX9_kinds_66 rfl rfl ?_
    refine x_ireturn (pc := 67) dX9_kinds_67 ⟨_, rfl, rfl⟩ ⟨Nat.le_refl _, Nat.le_refl _⟩ ?_
    have h9 := K J Q fj fq
    rw [spKinds_s hb v6] at h9
    rw [hz]
    exact h9
  | succ w ih =>
    intro i hw J Q fj fq
    have hi : i < 7 := by omega
    have hG := hG.keepR (fun a k hk => fq a k (Or.inr hk))
    have hfn : FSC J nw V := h.keepN hG fj
    have hrJ := hr.keep (congrFun (fj lr (by omega)) 6) (fun a p1 p2 => fj a (by omega))
    have hRQ : Q nw 11 = rgRef V := (fq nw 11 (Or.inl (by omega))).trans hRn
    refine x_iload_n (pc := 17) dX9_kinds_17 rfl rfl ?_
    refine x_bipush (pc := 18) (v := 7) dX9_kinds_18 (by decide) ?_
    refine x_icmpn_ge_f (pc := 20) (tgt := 66) (a := i) (b := 7) dX9_kinds_20 (by decide) (by omega) (by decide) (by omega) ?_
    refine x_aload_n (pc := 23) dX9_kinds_23 rfl rfl ?_
    refine x_getr (pc := 24) dX9_kinds_24 kf_RX9_21 hG.g_x rfl hG.g_f2 ?_
    refine x_aload_n (pc := 27) dX9_kinds_27 rfl rfl ?_
    refine x_getr (pc := 28) dX9_kinds_28 kf_RX9_12 hG.g_x rfl hG.g_f0 ?_
    refine x_callV (pc := 31) (As := [.ref _]) dX9_kinds_31 km_X6_copyFrom kv_X6_copyFrom kl_RX9_197 hG.g_tr.1 rfl rfl (by decide) ⟨Nat.le_refl _, Nat.le_refl _⟩ rfl (Nat.le_of_ble_eq_true rfl) (Nat.le_of_ble_eq_true rfl) (c_scCopy hG.g_tr hG.g_nw (by omega) (fun j hj => ⟨(hfn.1 j hj).1, vsz_le hv hj⟩) (fun I2 k1 k2 k3 k4 k5 k6 => ⟨rfl, rfl, ?_⟩))
    have hsc := hfn.toTr hG hv hB hrJ hV6 hRQ k1 k2 k3 k4 k5 k6
    have hG : GEO sh (up2 Q tr 11 (Q nw 11)) lr nw im tr rd hu se ac M := hG.keepR (fun a k hk => trR.up a k (Or.inr hk))
    have ff : trP tr I I2 := fun a ha => (k1 a (by omega)).trans (fj a ha)
    refine x_aload_n (pc := 34) dX9_kinds_34 rfl rfl ?_
    refine x_getr (pc := 35) dX9_kinds_35 kf_RX9_21 hG.g_x rfl hG.g_f2 ?_
    refine x_getr (pc := 38) dX9_kinds_38 kf_RX9_105 hG.g_tr.1 rfl hG.g_tr.2.2.2.1 ?_
    refine x_iload_n (pc := 41) dX9_kinds_41 rfl rfl ?_
    refine x_iload_n (pc := 42) dX9_kinds_42 rfl rfl ?_
    refine x_callV (pc := 43) (As := [.int _, .int _]) dX9_kinds_43 km_X5_put kv_X5_put kl_RX9_150 hG.g_tr.2.2.2.2.2.2.2.2.2.2.2.1.1 rfl rfl (by decide) ⟨Nat.le_refl _, Nat.le_refl _⟩ rfl (Nat.le_of_ble_eq_true rfl) (Nat.le_of_ble_eq_true rfl) (c_put (x := nI i) (hG.g_tr.2.2.2.2.2.2.2.2.2.2.2.1) hsc.2.2.1.1 hb v6 (⟨rfl, rfl, ?_⟩))
    have hk2 := hsc.setKind (i := b) hi
    have ff2 : trP tr I (up2 I2 (tr + 2) b (nI i)) := fun a ha => by rw [up2_row (by omega)]; exact ff a ha
    refine x_aload_n (pc := 46) dX9_kinds_46 rfl rfl ?_
    refine x_iload_n (pc := 47) dX9_kinds_47 rfl rfl ?_
    refine x_callV (pc := 48) (As := [.int _]) dX9_kinds_48 km_X9_goesAsFilm kv_X9_goesAsFilm kl_RX9_283 hG.g_x rfl rfl (by decide) ⟨Nat.le_refl _, Nat.le_refl _⟩ rfl (Nat.le_of_ble_eq_true rfl) (Nat.le_of_ble_eq_true rfl) (c_film (W := setK V b i) (o := (rgVal ars V)) hG v6 (show V 8 2 + 20 < 1000000 by omega) v10 vm hb ((h.keepN hG ff2).row 7 (by decide)) (fun I3 hy f3 => ⟨rfl, rfl, ?_⟩) (fun I3 hx f3 => ⟨rfl, rfl, ?_⟩) hk2)
    · skip
      refine x_if_eq_f (pc := 51) (tgt := 60) dX9_kinds_51 (by decide) (by decide) ?_
      refine x_iload_n (pc := 54) dX9_kinds_54 rfl rfl ?_
      refine x_iconst (pc := 55) (v := 1) dX9_kinds_55 (by decide) ?_
      refine x_iload_n (pc := 56) dX9_kinds_56 rfl rfl ?_
      refine x_ishl (pc := 57) dX9_kinds_57 ?_
      refine x_ior (pc := 58) dX9_kinds_58 ?_
      refine x_topi (fun v59 ev59 => ?_)
      refine x_istore_n (pc := 59) (lv' := [(0, .ref lr), (1, .int (nI b)), (2, .int v59), (3, .int (nI i))]) dX9_kinds_59 rfl (by decide) rfl ?_
      refine x_iinc (pc := 60) (v := nI (i + 1)) (lv' := [(0, .ref lr), (1, .int (nI b)), (2, .int v59), (3, .int (nI (i + 1)))]) dX9_kinds_60 rfl (nI_1 _) (by decide) rfl ?_
      refine x_goto (pc := 63) (tgt := 17) dX9_kinds_63 (by decide) ?_
      have h9 := ih (i + 1) (by omega) I3 (up2 Q tr 11 (Q nw 11)) (fun a ha => (f3 a ha).trans (ff2 a ha)) (fq.tr trR.up)
      rw [kdM_t (decide_eq_true hy)] at h9
      subst ev59
      exact h9
    · skip
      refine x_if_eq_t (pc := 51) (tgt := 60) dX9_kinds_51 (by decide) (by decide) ?_
      refine x_iinc (pc := 60) (v := nI (i + 1)) (lv' := [(0, .ref lr), (1, .int (nI b)), (2, .int (kdM (kindP V (rgVal ars V) b) i)), (3, .int (nI (i + 1)))]) dX9_kinds_60 rfl (nI_1 _) (by decide) rfl ?_
      refine x_goto (pc := 63) (tgt := 17) dX9_kinds_63 (by decide) ?_
      have h9 := ih (i + 1) (by omega) I3 (up2 Q tr 11 (Q nw 11)) (fun a ha => (f3 a ha).trans (ff2 a ha)) (fq.tr trR.up)
      rw [kdM_f (decide_eq_false (fun q => hx.elim (fun a ha => ha.2 (q a ha.1))))] at h9
      exact h9

set_option maxHeartbeats 4000000 in
set_option maxRecDepth 100000 in
theorem c_kinds {T : xT} {n : Nat} {sh : Nat → Nat × Nat} {I : xI} {R : xR} {L : xL} {P : xPost} {lr nw im tr rd hu se ac M : Nat} (hG : GEO sh R lr nw im tr rd hu se ac M) {V : xV} {B rc : Nat} {ars : Nat → xAR} (h : FSC I nw V) (hv : VOK V B) (hB : B < 800000) (hr : cRings I lr rc ars) (hV6 : V 8 6 ≤ rc) (hRn : R nw 11 = rgRef V) {x : Int32} (K : ∀ (I2 : xI) (R2 : xR), trP tr I I2 → trR tr R R2 → P (n, sh, 0, 0) I2 R2 L (some (.int (spKinds V (rgVal ars V) x))))  : XM T zX9_kinds 7 [.ref lr, .int x] n sh I R L P := by
  obtain ⟨v6, v12, v10, vb, vf, vw, vm, vta, vte, vod, vrg, vdi⟩ := id hv
  refine x_aload_n (pc := 0) dX9_kinds_0 rfl rfl ?_
  refine x_getr (pc := 1) dX9_kinds_1 kf_RX9_12 hG.g_x rfl hG.g_f0 ?_
  refine x_iload_n (pc := 4) dX9_kinds_4 rfl rfl ?_
  refine x_callV (pc := 5) (As := [.int _]) dX9_kinds_5 km_X6_isBeast kv_X6_isBeast kl_RX9_102 hG.g_nw.1 rfl rfl (by decide) ⟨Nat.le_refl _, Nat.le_refl _⟩ rfl (Nat.le_of_ble_eq_true rfl) (Nat.le_of_ble_eq_true rfl) (c_isBeast hG.g_nw (h.row 2 (by decide)) v6 (fun k hk ek => ⟨rfl, rfl, ?_⟩) (fun h1 => ⟨rfl, rfl, ?_⟩))
  · skip
    subst ek
    refine x_if_ne_t (pc := 8) (tgt := 13) dX9_kinds_8 (by decide) (by decide) ?_
    refine x_iconst (pc := 13) (v := 0) dX9_kinds_13 (by decide) ?_
    refine x_istore_n (pc := 14) (lv' := [(0, .ref lr), (1, .int (nI k)), (2, .int 0)]) dX9_kinds_14 rfl (by decide) rfl ?_
    refine x_iconst (pc := 15) (v := 0) dX9_kinds_15 (by decide) ?_
    refine x_istore_n (pc := 16) (lv' := [(0, .ref lr), (1, .int (nI k)), (2, .int 0), (3, .int 0)]) dX9_kinds_16 rfl (by decide) rfl ?_
    exact l_kinds hG h hv hB hr hV6 hRn hk K 7 0 (by omega) I R (fun _ _ => rfl) trR.rf
  · skip
    refine x_if_ne_f (pc := 8) (tgt := 13) dX9_kinds_8 (by decide) (by decide) ?_
    refine x_iconst (pc := 11) (v := -1) dX9_kinds_11 (by decide) ?_
    refine x_ireturn (pc := 12) dX9_kinds_12 ⟨_, rfl, rfl⟩ ⟨Nat.le_refl _, Nat.le_refl _⟩ ?_
    have h9 := K I R (fun _ _ => rfl) trR.rf
    rw [spKinds_n h1] at h9
    exact h9

