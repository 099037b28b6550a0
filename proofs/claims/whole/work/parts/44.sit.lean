/-! ===== sit, safe, from: the class ===== -/
/-- the first below n where p holds, or n -/
def fstP (p : Nat → Bool) : Nat → Nat
  | 0 => 0
  | m + 1 => if fstP p m < m then fstP p m else if p m = true then m else m + 1
theorem fstP_no {p : Nat → Bool} : ∀ n, (∀ j, j < n → p j = false) → fstP p n = n
  | 0, _ => rfl
  | m + 1, h => by
    have ih := fstP_no m (fun j hj => h j (by omega))
    show (if fstP p m < m then fstP p m else if p m = true then m else m + 1) = m + 1
    rw [ih, if_neg (by omega), h m (by omega)]
    rfl
theorem fstP_of {p : Nat → Bool} {k : Nat} (hk : p k = true) (h : ∀ j, j < k → p j = false) : ∀ n, k < n → fstP p n = k
  | 0, q => absurd q (by omega)
  | m + 1, q => by
    show (if fstP p m < m then fstP p m else if p m = true then m else m + 1) = k
    by_cases hm : k < m
    · rw [fstP_of hk h m hm, if_pos hm]
    · have e : k = m := by omega
      subst e
      rw [fstP_no k h, if_neg (by omega), if_pos hk]
/-- what a method of the class that only tries leaves as it is -/
def trP (tr : Nat) (I I' : xI) : Prop := ∀ a, (a < tr ∨ tr + 18 ≤ a) → I' a = I a
/-- references: only the trial scene's ring may be another -/
def trR (tr : Nat) (R R' : xR) : Prop := ∀ a k, (a ≠ tr ∨ k ≠ 11) → R' a k = R a k
theorem trR.up {tr : Nat} {R : xR} {x : Option Nat} : trR tr R (up2 R tr 11 x) := fun a k h => by
  rcases Decidable.em (a = tr) with e | e
  · subst e
    exact up2_k (h.resolve_left (fun q => q rfl))
  · exact congrFun (up2_row e) k
theorem trR.rf {tr : Nat} {R : xR} : trR tr R R := fun _ _ _ => rfl
theorem FSC.copy {I I2 : xI} {d b : Nat} {V : xV} (h : FSC I b V) (k2 : ∀ t, t < 8 → I2 (d + 1 + 2 * t) 1 = nI (vsz V t) ∧ ∀ i, i < vsz V t → I2 (d + 2 + 2 * t) i = I (b + 2 + 2 * t) i) (k3 : I2 d 8 = I b 8) (k4 : I2 d 9 = I b 9) (k5 : I2 d 10 = I b 10) (k6 : I2 d 12 = I b 12) : FSC I2 d V := ⟨fun j hj => ⟨(k2 j hj).1, fun i hi => ((k2 j hj).2 i hi).trans ((h.1 j hj).2 i hi)⟩, k3.trans h.2.1, k4.trans h.2.2.1, k5.trans h.2.2.2.1, k6.trans h.2.2.2.2⟩
theorem vsz_le {V : xV} {B j : Nat} (hv : VOK V B) (hj : j < 8) : vsz V j ≤ [6, 6, 6, 6, 6, 6, 12, 10].getD j 0 := by
  obtain ⟨v6, v12, v10, _⟩ := hv
  unfold vsz
  rcases j with _|_|_|_|_|_|_|_|j <;> first | exact absurd hj (by omega) | exact v6 | exact v12 | exact v10
theorem cRings.keep {I I' : xI} {lr rc : Nat} {ars : Nat → xAR} (h : cRings I lr rc ars) (h0 : I' lr 6 = I lr 6) (hk : ∀ a, 83 ≤ a → a < 125 → I' a = I a) : cRings I' lr rc ars := by
  obtain ⟨h1, h2, h3⟩ := h
  refine ⟨h1, h0.trans h2, fun j hj => ?_⟩
  obtain ⟨a1, a2, a3⟩ := h3 j hj
  refine ⟨?_, by rw [hk _ (by omega) (by omega)]; exact a2, a3⟩
  revert a1
  unfold rgEval
  rw [hk (83 + 7 * j + 1) (by omega) (by omega), hk (83 + 7 * j + 2) (by omega) (by omega), hk (83 + 7 * j + 3) (by omega) (by omega), hk (83 + 7 * j + 4) (by omega) (by omega), hk (83 + 7 * j + 5) (by omega) (by omega), hk (83 + 7 * j + 6) (by omega) (by omega)]
  exact id
theorem FSC.toTr {sh : Nat → Nat × Nat} {R : xR} {I I2 : xI} {lr nw im tr rd hu se ac M : Nat} (hG : GEO sh R lr nw im tr rd hu se ac M) {V : xV} {B rc : Nat} {ars : Nat → xAR} (h : FSC I nw V) (hv : VOK V B) (hB : B < 800000) (hr : cRings I lr rc ars) (hV6 : V 8 6 ≤ rc) (hRn : R nw 11 = rgRef V) (k1 : ∀ a, (a < tr ∨ tr + 17 ≤ a) → I2 a = I a) (k2 : ∀ t, t < 8 → I2 (tr + 1 + 2 * t) 1 = nI (vsz V t) ∧ ∀ i, i < vsz V t → I2 (tr + 2 + 2 * t) i = I (nw + 2 + 2 * t) i) (k3 : I2 tr 8 = I nw 8) (k4 : I2 tr 9 = I nw 9) (k5 : I2 tr 10 = I nw 10) (k6 : I2 tr 12 = I nw 12) : SC sh (up2 R tr 11 (R nw 11)) I2 tr (V 8 0) (V 0) (V 1) (V 2) (V 3) (V 4) (V 8 1) (V 8 2) 0 (lnO (rgVal ars V)) := by
  have hG2 : GEO sh (up2 R tr 11 (R nw 11)) lr nw im tr rd hu se ac M := hG.keepR (fun a k hk => trR.up a k (Or.inr hk))
  have e1 := hG.g_e_tr
  have e2 := hG.g_e_x
  exact (h.copy k2 k3 k4 k5 k6).toSC hG2.g_tr hv (by omega) (lines_of (hr.keep (by rw [k1 lr (by omega)]) (fun a p1 p2 => k1 a (by omega))) hG2.g_rg hV6 (by rw [up2_s]; exact hRn))
/-- sit -/
def sitP (V : xV) (o : Option xAR) (k : Nat) : Bool := decide (∀ i, i < V 8 0 → goF V o (V 8 1) k i = V 3 i)
def spSit (V : xV) (o : Option xAR) : Int32 := if fstP (sitP V o) 61 < 61 then nI (fstP (sitP V o) 61) else -5
theorem spSit_of {V : xV} {o : Option xAR} {k : Nat} (h : sitP V o k = true) (hj : ∀ j, j < k → sitP V o j = false) (hk : k < 61) : spSit V o = nI k := by
  unfold spSit
  rw [fstP_of h hj 61 hk, if_pos hk]
theorem spSit_no {V : xV} {o : Option xAR} (hj : ∀ j, j < 61 → sitP V o j = false) : spSit V o = -5 := by
  unfold spSit
  rw [fstP_no 61 hj]
  rfl

set_option maxHeartbeats 4000000 in
set_option maxRecDepth 100000 in
theorem l_sit {T : xT} {n : Nat} {sh : Nat → Nat × Nat} {I : xI} {R : xR} {L : xL} {P : xPost} {lr nw im tr rd hu se ac M : Nat} (hG : GEO sh R lr nw im tr rd hu se ac M) {V : xV} {B : Nat} {ars : Nat → xAR} (hv : VOK V B) (hB : B < 800000) (K : ∀ I2 : xI, trP tr I I2 → P (n, sh, 0, 0) I2 R L (some (.int (spSit V (rgVal ars V)))))  : ∀ (w i : Nat), i + w = 61 → ∀ (J : xI), SC sh R J tr (V 8 0) (V 0) (V 1) (goF V (rgVal ars V) (V 8 1) i) (V 3) (V 4) (V 8 1) (V 8 2 + i) 0 (lnO (rgVal ars V)) → trP tr I J → (∀ j, j < i → sitP V (rgVal ars V) j = false) → X T zX9_sit 6 0 0 P 13 [(0, .ref lr), (1, .int (nI i))] [] (n, sh, 0, 0) (J) R L := by
  obtain ⟨v6, v12, v10, vb, vf, vw, vm, vta, vte, vod, vrg, vdi⟩ := id hv
  intro w
  induction w with
  | zero =>
    intro i hw J hj fj hno
    have hz : i = 61 := by omega
    refine x_iload_n (pc := 13) dX9_sit_13 rfl rfl ?_
    refine x_bipush (pc := 14) (v := 60) dX9_sit_14 (by decide) ?_
    refine x_icmpn_gt_t (pc := 16) (tgt := 44) (a := i) (b := 60) dX9_sit_16 (by decide) (by omega) (by decide) (by omega) ?_
    refine x_bipush (pc := 44) (v := -5) dX9_sit_44 (by decide) ?_
    refine x_ireturn (pc := 46) dX9_sit_46 ⟨_, rfl, rfl⟩ ⟨Nat.le_refl _, Nat.le_refl _⟩ ?_
    rw [hz] at hno
    have h9 := K J fj
    rw [spSit_no hno] at h9
    exact h9
  | succ w ih =>
    intro i hw J hj fj hno
    have hi : i < 61 := by omega
    refine x_iload_n (pc := 13) dX9_sit_13 rfl rfl ?_
    refine x_bipush (pc := 14) (v := 60) dX9_sit_14 (by decide) ?_
    refine x_icmpn_gt_f (pc := 16) (tgt := 44) (a := i) (b := 60) dX9_sit_16 (by decide) (by omega) (by decide) (by omega) ?_
    refine x_aload_n (pc := 19) dX9_sit_19 rfl rfl ?_
    refine x_getr (pc := 20) dX9_sit_20 kf_RX9_21 hG.g_x rfl hG.g_f2 ?_
    refine x_callV (pc := 23) (As := []) dX9_sit_23 km_X6_allSit kv_X6_allSit kl_RX9_234 hG.g_tr.1 rfl rfl (by decide) ⟨Nat.le_refl _, Nat.le_refl _⟩ rfl (Nat.le_of_ble_eq_true rfl) (Nat.le_of_ble_eq_true rfl) (c_allSit hj (fun hy => ⟨rfl, rfl, ?_⟩) (fun hx => ⟨rfl, rfl, ?_⟩))
    · skip
      refine x_if_eq_f (pc := 26) (tgt := 31) dX9_sit_26 (by decide) (by decide) ?_
      refine x_iload_n (pc := 29) dX9_sit_29 rfl rfl ?_
      refine x_ireturn (pc := 30) dX9_sit_30 ⟨_, rfl, rfl⟩ ⟨Nat.le_refl _, Nat.le_refl _⟩ ?_
      have h9 := K J fj
      rw [spSit_of (k := i) (decide_eq_true hy) hno hi] at h9
      exact h9
    · skip
      refine x_if_eq_t (pc := 26) (tgt := 31) dX9_sit_26 (by decide) (by decide) ?_
      refine x_aload_n (pc := 31) dX9_sit_31 rfl rfl ?_
      refine x_getr (pc := 32) dX9_sit_32 kf_RX9_21 hG.g_x rfl hG.g_f2 ?_
      refine x_callV (pc := 35) (As := []) dX9_sit_35 km_X6_passTenth kv_X6_passTenth kl_RX9_187 hG.g_tr.1 rfl rfl (by decide) ⟨Nat.le_refl _, Nat.le_refl _⟩ rfl (Nat.le_of_ble_eq_true rfl) (Nat.le_of_ble_eq_true rfl) (c_passTenth hj (by omega) (fun I2 h3 f2 => ⟨rfl, rfl, ?_⟩))
      have h3 := (show SC sh R I2 tr (V 8 0) (V 0) (V 1) (goF V (rgVal ars V) (V 8 1) (i + 1)) (V 3) (V 4) (V 8 1) (V 8 2 + (i + 1)) 0 (lnO (rgVal ars V)) from h3)
      refine x_iinc (pc := 38) (v := nI (i + 1)) (lv' := [(0, .ref lr), (1, .int (nI (i + 1)))]) dX9_sit_38 rfl (nI_1 _) (by decide) rfl ?_
      refine x_goto (pc := 41) (tgt := 13) dX9_sit_41 (by decide) ?_
      exact ih (i + 1) (by omega) I2 h3 (fun a ha => by rw [f2.1 a (by omega) (by omega) (by omega)]; exact fj a ha) (fun j hj9 => (Nat.lt_succ_iff_lt_or_eq.mp hj9).elim (hno j) (fun e9 => by subst e9; exact decide_eq_false (fun q => hx.elim (fun a ha => ha.2 (q a ha.1)))))

set_option maxHeartbeats 4000000 in
set_option maxRecDepth 100000 in
theorem c_sit {T : xT} {n : Nat} {sh : Nat → Nat × Nat} {I : xI} {R : xR} {L : xL} {P : xPost} {lr nw im tr rd hu se ac M : Nat} (hG : GEO sh R lr nw im tr rd hu se ac M) {V : xV} {B rc : Nat} {ars : Nat → xAR} (h : FSC I nw V) (hv : VOK V B) (hB : B < 800000) (hr : cRings I lr rc ars) (hV6 : V 8 6 ≤ rc) (hRn : R nw 11 = rgRef V) (K : ∀ (I2 : xI) (R2 : xR), trP tr I I2 → trR tr R R2 → P (n, sh, 0, 0) I2 R2 L (some (.int (spSit V (rgVal ars V)))))  : XM T zX9_sit 6 [.ref lr] n sh I R L P := by
  obtain ⟨v6, v12, v10, vb, vf, vw, vm, vta, vte, vod, vrg, vdi⟩ := id hv
  refine x_aload_n (pc := 0) dX9_sit_0 rfl rfl ?_
  refine x_getr (pc := 1) dX9_sit_1 kf_RX9_21 hG.g_x rfl hG.g_f2 ?_
  refine x_aload_n (pc := 4) dX9_sit_4 rfl rfl ?_
  refine x_getr (pc := 5) dX9_sit_5 kf_RX9_12 hG.g_x rfl hG.g_f0 ?_
  refine x_callV (pc := 8) (As := [.ref _]) dX9_sit_8 km_X6_copyFrom kv_X6_copyFrom kl_RX9_197 hG.g_tr.1 rfl rfl (by decide) ⟨Nat.le_refl _, Nat.le_refl _⟩ rfl (Nat.le_of_ble_eq_true rfl) (Nat.le_of_ble_eq_true rfl) (c_scCopy hG.g_tr hG.g_nw (by have e1 := hG.g_e_tr; have e2 := hG.g_e_nw; omega) (fun j hj => ⟨(h.1 j hj).1, vsz_le hv hj⟩) (fun I2 k1 k2 k3 k4 k5 k6 => ⟨rfl, rfl, ?_⟩))
  refine x_iconst (pc := 11) (v := 0) dX9_sit_11 (by decide) ?_
  refine x_istore_n (pc := 12) (lv' := [(0, .ref lr), (1, .int 0)]) dX9_sit_12 rfl (by decide) rfl ?_
  exact l_sit (hG.keepR (fun a k hk => trR.up a k (Or.inr hk))) hv hB (fun I3 f3 => K I3 _ (fun a ha => (f3 a ha).trans (k1 a (by omega))) trR.up) 61 0 (by omega) I2 (h.toTr hG hv hB hr hV6 hRn k1 k2 k3 k4 k5 k6) (fun _ _ => rfl) (fun j hj => absurd hj (by omega))

