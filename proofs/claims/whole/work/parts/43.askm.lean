/-! ===== the reference: how all is goes on ===== -/
theorem nI_0le {k : Nat} (h : k < 2 ^ 31) : (0 : Int32) ≤ nI k := Int32.le_iff_toInt_le.mpr (by rw [nI_toInt h]; exact Int.natCast_nonneg _)
/-- what a method of the reference that alters the scene only leaves as it is -/
def mdP (M : Nat) (I I' : xI) : Prop := (∀ a, (a < M ∨ 26 + M < a ∨ (6 + M < a ∧ a < 14 + M) ∨ a = M + 15) → I' a = I a) ∧ ∀ k, (k = 10 ∨ k = 12 ∨ 48 ≤ k) → I' M k = I M k
theorem mdP.rf {M : Nat} {I : xI} : mdP M I I := ⟨fun _ _ => rfl, fun _ _ => rfl⟩
theorem mdP.tr {M : Nat} {I I' I'' : xI} (h : mdP M I I') (h' : mdP M I' I'') : mdP M I I'' := ⟨fun a p => (h'.1 a p).trans (h.1 a p), fun k p => (h'.2 k p).trans (h.2 k p)⟩
theorem mdP.of2 {M : Nat} {I I' : xI} (h : mdFr2 M I I') : mdP M I I' := ⟨fun a p => h.1 a (by omega) (by omega) (by omega), fun k p => h.2 k (by omega) (by omega) (by omega)⟩
theorem mdP.of {M : Nat} {I I' : xI} (h : mdFr M I I') : mdP M I I' := ⟨fun a p => h.1 a (by omega) (by omega), fun k p => h.2 k (by omega)⟩
theorem mdP.fld {M k : Nat} {x : Int32} {I : xI} (hk : k ≠ 10 ∧ k ≠ 12 ∧ k < 48) : mdP M I (up2 I M k x) := ⟨fun a p => up2_row (by omega), fun j p => up2_k (by omega)⟩
theorem mdP.arr {M a k : Nat} {x : Int32} {I : xI} (ha : (M < a ∧ a ≤ M + 6) ∨ a = M + 14 ∨ (M + 16 ≤ a ∧ a ≤ M + 26)) : mdP M I (up2 I a k x) := ⟨fun a p => up2_row (by omega), fun j p => by rw [up2_row (by omega)]⟩
theorem mRings.keep {I I' : xI} {M rc : Nat} {ars : Nat → xAR} (h : mRings I M rc ars) (f : mdP M I I') : mRings I' M rc ars := by
  refine ⟨h.1, (f.2 10 (by omega)).trans h.2.1, fun j hj => ?_⟩
  have k := h.2.2 j hj
  unfold mdRing at k ⊢
  rw [f.1 (M + 8) (by omega), f.1 (M + 9) (by omega), f.1 (M + 10) (by omega), f.1 (M + 11) (by omega), f.1 (M + 12) (by omega), f.1 (M + 13) (by omega)]
  exact k
theorem MDV.toMS {sh : Nat → Nat × Nat} {R : xR} {I I2 : xI} {M B rc : Nat} {V : xV} {ars : Nat → xAR} (hM : xModel sh R M) (h : MDV I M V) (hv : VOK V B) (hB : B < 800000) (hr : mRings I M rc ars) (hV : V 8 6 ≤ rc) (k1 : ∀ a, a ≠ M → a ≠ M + 16 → a ≠ M + 17 → I2 a = I a) (k2 : ∀ k, k ≠ 27 → k ≠ 28 → k ≠ 29 → I2 M k = I M k) (k3 : I2 M 27 = I M 1) (k4 : I2 M 28 = I M 2) (k5 : I2 M 29 = 0) (k6 : ∀ i, i < 6 → I2 (M + 16) i = I (M + 3) i) (k7 : ∀ i, i < 6 → I2 (M + 17) i = I (M + 1) i) : MS sh R I2 M (V 8 0) (V 0) (V 1) (V 2) (V 3) (V 4) (V 8 1) (V 8 2) 0 (rgVal ars V) := by
  obtain ⟨v6, v12, v10, vb, vf, vw, vm, vta, vte, vod, vrg, vdi⟩ := hv
  obtain ⟨h1, h2, h3, h4, h5, h6, h7, h8, h9, h10⟩ := h
  refine ⟨hM, v6, (k2 0 (by decide) (by decide) (by decide)).trans h1, fun i hi => (k7 i (by omega)).trans (h8 0 (by decide) i hi), fun i hi => by rw [k1 _ (by omega) (by omega) (by omega)]; exact h8 1 (by decide) i hi, fun i hi => (k6 i (by omega)).trans (h8 2 (by decide) i hi), fun i hi => by rw [k1 _ (by omega) (by omega) (by omega)]; exact h8 3 (by decide) i hi, fun i hi => by rw [k1 _ (by omega) (by omega) (by omega)]; exact h8 4 (by decide) i hi, vb, k3.trans h2, vta, k4.trans h3, by omega, k5, by decide, ?_⟩
  exact (mlines_of hr hV h7).keep (k2 11 (by decide) (by decide) (by decide)) (fun j p1 p2 => k1 _ (by omega) (by omega) (by omega))
theorem MDV.go {I J : xI} {M te : Nat} {V : xV} {ce : Nat → Nat} (h : MDV I M V) (k1 : ∀ a, a ≠ M → a ≠ M + 3 → a ≠ M + 16 → a ≠ M + 17 → a ≠ M + 18 → J a = I a) (k2 : ∀ k, (k < 27 ∨ 37 < k) → k ≠ 2 → J M k = I M k) (k3 : J M 2 = nI te) (k4 : ∀ i, i < V 8 0 → J (M + 3) i = nI (ce i)) : MDV J M (setCT V ce te) := by
  obtain ⟨h1, h2, h3, h4, h5, h6, h7, h8, h9, h10⟩ := h
  unfold MDV
  rw [setCT_t, setCT_8 (i := 0) (by decide), setCT_8 (i := 1) (by decide), setCT_8 (i := 3) (by decide), setCT_8 (i := 4) (by decide), setCT_8 (i := 5) (by decide), setCT_8 (i := 6) (by decide), setCT_o (j := 6) (by decide) (by decide), setCT_o (j := 7) (by decide) (by decide), k2 0 (by omega) (by decide), k2 1 (by omega) (by decide), k2 3 (by omega) (by decide), k2 38 (by omega) (by decide), k2 46 (by omega) (by decide), k2 11 (by omega) (by decide), k1 (M + 19) (by omega) (by omega) (by omega) (by omega) (by omega), k1 (M + 26) (by omega) (by omega) (by omega) (by omega) (by omega)]
  refine ⟨h1, h2, k3, h4, h5, h6, h7, fun j hj i hi => ?_, h9, h10⟩
  by_cases hj2 : j = 2
  · subst hj2
    rw [setCT_2]
    exact k4 i hi
  · rw [setCT_o hj2 (by omega), k1 (M + 1 + j) (by omega) (by omega) (by omega) (by omega) (by omega)]
    exact h8 j hj i hi

set_option maxHeartbeats 4000000 in
set_option maxRecDepth 100000 in
theorem lm_goB {T : xT} {n : Nat} {sh : Nat → Nat × Nat} {I : xI} {R : xR} {L : xL} {P : xPost} {M : Nat} (hM : xModel sh R M) {v x : Int32} (K1 : ∀ J : xI, (∀ i, i < 6 → J (M + 3) i = I (M + 16) i) → (∀ a, a ≠ M → a ≠ M + 3 → J a = I a) → (∀ k, k ≠ 2 → J M k = I M k) → J M 2 = I M 28 → P (n, sh, 0, 0) J R L (some (.int (if 0 ≤ v then v else -5))))  : ∀ (w i : Nat), i + w = 6 → ∀ (J : xI), (∀ j, j < i → J (M + 3) j = I (M + 16) j) → (∀ a, a ≠ M + 3 → J a = I a) → X T zX10_go 6 0 0 P 48 [(0, .ref M), (1, .int x), (2, .int v), (3, .int (nI i))] [] (n, sh, 0, 0) (J) R L := by
  intro w
  induction w with
  | zero =>
    intro i hw J hj fj
    have hz : i = 6 := by omega
    refine x_iload_n (pc := 48) dX10_go_48 rfl rfl ?_
    refine x_bipush (pc := 49) (v := 6) dX10_go_49 (by decide) ?_
    refine x_icmpn_ge_t (pc := 51) (tgt := 72) (a := i) (b := 6) dX10_go_51 (by decide) (by omega) (by decide) (by omega) ?_
    refine x_aload_n (pc := 72) dX10_go_72 rfl rfl ?_
    refine x_aload_n (pc := 73) dX10_go_73 rfl rfl ?_
    refine x_get (pc := 74) dX10_go_74 kf_RX10_95 hM.s rfl ?_
    refine x_put (pc := 77) dX10_go_77 kf_RX10_16 hM.s rfl (Or.inl kb_10_2) ?_
    refine x_iload_n (pc := 80) dX10_go_80 rfl rfl ?_
    refine x_if_ge (pc := 81) (tgt := 89) dX10_go_81 (by decide) (fun c81 => ?_) (fun c81 => ?_)
    · skip
      refine x_iload_n (pc := 89) dX10_go_89 rfl rfl ?_
      refine x_ireturn (pc := 90) dX10_go_90 ⟨_, rfl, rfl⟩ ⟨Nat.le_refl _, Nat.le_refl _⟩ ?_
      have h9 := K1 (up2 J M 2 (J M 28)) (fun i hi => by rw [up2_row (by omega)]; exact hj i (by omega)) (fun a p1 p2 => by rw [up2_row p1]; exact fj a p2) (fun k p => by rw [up2_k p, fj M (by omega)]) (by rw [up2_s, fj M (by omega)])
      rw [if_pos c81] at h9
      exact h9
    · skip
      refine x_bipush (pc := 84) (v := -5) dX10_go_84 (by decide) ?_
      refine x_goto (pc := 86) (tgt := 90) dX10_go_86 (by decide) ?_
      refine x_ireturn (pc := 90) dX10_go_90 ⟨_, rfl, rfl⟩ ⟨Nat.le_refl _, Nat.le_refl _⟩ ?_
      have h9 := K1 (up2 J M 2 (J M 28)) (fun i hi => by rw [up2_row (by omega)]; exact hj i (by omega)) (fun a p1 p2 => by rw [up2_row p1]; exact fj a p2) (fun k p => by rw [up2_k p, fj M (by omega)]) (by rw [up2_s, fj M (by omega)])
      rw [if_neg c81] at h9
      exact h9
  | succ w ih =>
    intro i hw J hj fj
    have hi : i < 6 := by omega
    refine x_iload_n (pc := 48) dX10_go_48 rfl rfl ?_
    refine x_bipush (pc := 49) (v := 6) dX10_go_49 (by decide) ?_
    refine x_icmpn_ge_f (pc := 51) (tgt := 72) (a := i) (b := 6) dX10_go_51 (by decide) (by omega) (by decide) (by omega) ?_
    refine x_aload_n (pc := 54) dX10_go_54 rfl rfl ?_
    refine x_getr (pc := 55) dX10_go_55 kf_RX10_29 hM.s rfl hM.f2 ?_
    refine x_iload_n (pc := 58) dX10_go_58 rfl rfl ?_
    refine x_aload_n (pc := 59) dX10_go_59 rfl rfl ?_
    refine x_getr (pc := 60) dX10_go_60 kf_RX10_101 hM.s rfl hM.f15 ?_
    refine x_iload_n (pc := 63) dX10_go_63 rfl rfl ?_
    refine x_ialdn (pc := 64) (a := i) dX10_go_64 hM.s15 (by omega) (by omega) ?_
    refine x_iastn (pc := 65) (a := i) dX10_go_65 hM.s2 (by omega) (by omega) ?_
    refine x_iinc (pc := 66) (v := nI (i + 1)) (lv' := [(0, .ref M), (1, .int x), (2, .int v), (3, .int (nI (i + 1)))]) dX10_go_66 rfl (nI_1 _) (by decide) rfl ?_
    refine x_goto (pc := 69) (tgt := 48) dX10_go_69 (by decide) ?_
    refine ih (i + 1) (by omega) _ (fun j hj9 => ?_) (fun a ha => by rw [up2_row ha]; exact fj a ha)
    rcases Nat.lt_succ_iff_lt_or_eq.mp hj9 with hlt | heq
    · rw [up2_k (by omega)]
      exact hj j hlt
    · subst heq
      rw [up2_s, fj (M + 16) (by omega)]

set_option maxHeartbeats 4000000 in
set_option maxRecDepth 100000 in
theorem lm_go22 {T : xT} {n : Nat} {sh : Nat → Nat × Nat} {I : xI} {R : xR} {L : xL} {P : xPost} {M : Nat} (hM : xModel sh R M) {m i k : Nat} (hk : k < 6) (hm : m ≤ 60) (hi : i ≤ 60) (K : X T zX10_go 6 0 0 P 48 [(0, .ref M), (1, .int (nI m)), (2, .int (nI k)), (3, .int 0)] [] (n, sh, 0, 0) I R L) :  X T zX10_go 6 0 0 P 22 [(0, .ref M), (1, .int (nI m)), (2, .int (nI k)), (3, .int (nI i))] [] (n, sh, 0, 0) (I) R L := by
  refine x_iload_n (pc := 22) dX10_go_22 rfl rfl ?_
  refine x_iload_n (pc := 23) dX10_go_23 rfl rfl ?_
  refine x_icmpn_ge (pc := 24) (tgt := 46) (a := i) (b := m) dX10_go_24 (by decide) (by omega) (by omega) (fun c24 => ?_) (fun c24 => ?_)
  · skip
    refine x_iconst (pc := 46) (v := 0) dX10_go_46 (by decide) ?_
    refine x_istore_n (pc := 47) (lv' := [(0, .ref M), (1, .int (nI m)), (2, .int (nI k)), (3, .int 0)]) dX10_go_47 rfl (by decide) rfl ?_
    exact K
  · skip
    refine x_iload_n (pc := 27) dX10_go_27 rfl rfl ?_
    refine x_ifn_ge (pc := 28) (tgt := 46) (a := k) dX10_go_28 (by decide) (by omega) ?_
    refine x_iconst (pc := 46) (v := 0) dX10_go_46 (by decide) ?_
    refine x_istore_n (pc := 47) (lv' := [(0, .ref M), (1, .int (nI m)), (2, .int (nI k)), (3, .int 0)]) dX10_go_47 rfl (by decide) rfl ?_
    exact K

set_option maxHeartbeats 4000000 in
set_option maxRecDepth 100000 in
theorem lm_go {T : xT} {n : Nat} {sh : Nat → Nat × Nat} {I : xI} {R : xR} {L : xL} {P : xPost} {M : Nat} (hM : xModel sh R M) {V : xV} {B rc : Nat} {ars : Nat → xAR} (h : MDV I M V) (hv : VOK V B) (hB : B < 800000) (hr : mRings I M rc ars) (hV6 : V 8 6 ≤ rc) {m : Nat} (hm1 : 1 ≤ m) (hm : m ≤ 60) (K : ∀ I2 : xI, MDV I2 M (spGo V (rgVal ars V) (nI m)).2 → mdP M I I2 → P (n, sh, 0, 0) I2 R L (some (.int (spGo V (rgVal ars V) (nI m)).1))) : ∀ (w i : Nat), i + w = m → ∀ (J : xI), MS sh R J M (V 8 0) (V 0) (V 1) (goF V (rgVal ars V) (V 8 1) i) (V 3) (V 4) (V 8 1) (V 8 2 + i) 0 (rgVal ars V) → (∀ a, a ≠ M → a ≠ M + 16 → a ≠ M + 17 → a ≠ M + 18 → J a = I a) → (∀ k, (k < 27 ∨ 37 < k) → J M k = I M k) → stp V (rgVal ars V) i = i → (i = 0 ∨ held (V 8 0) (goF V (rgVal ars V) (V 8 1) i) (V 8 1) = false) → X T zX10_go 6 0 0 P 22 [(0, .ref M), (1, .int (nI m)), (2, .int (-1)), (3, .int (nI i))] [] (n, sh, 0, 0) (J) R L := by
  obtain ⟨v6, v12, v10, vb, vf, vw, vm, vta, vte, vod, vrg, vdi⟩ := id hv
  have e9 : ∀ k, stp V (rgVal ars V) m = k → spGo V (rgVal ars V) (nI m) = (if held (V 8 0) (goF V (rgVal ars V) (V 8 1) k) (V 8 1) = true then nI (fstI (goF V (rgVal ars V) (V 8 1) k) (V 8 1) (V 8 0)) else -5, setCT V (goF V (rgVal ars V) (V 8 1) k) (V 8 2 + k)) := fun k hk => by
    unfold spGo
    rw [if_neg (fun q => q.elim (fun q => nI_ge (a := 0) hm1 (by omega) (by have := Int32.lt_iff_toInt_lt.mp q; rw [nI_toInt (by omega)] at this; exact absurd this (by have : (1 : Int32).toInt = 1 := rfl; omega))) (fun q => absurd ((nI_ltI (a := 60) (b := m) (by decide) (by omega)).mp q) (by omega))), nI_clamp (by omega), hk]
  intro w
  induction w with
  | zero =>
    intro i hw J hj fj ff hs hc9
    have hz : i = m := by omega
    refine x_iload_n (pc := 22) dX10_go_22 rfl rfl ?_
    refine x_iload_n (pc := 23) dX10_go_23 rfl rfl ?_
    refine x_icmpn_ge_t (pc := 24) (tgt := 46) (a := i) (b := m) dX10_go_24 (by decide) (by omega) (by omega) (by omega) ?_
    refine x_iconst (pc := 46) (v := 0) dX10_go_46 (by decide) ?_
    refine x_istore_n (pc := 47) (lv' := [(0, .ref M), (1, .int (nI m)), (2, .int (-1)), (3, .int 0)]) dX10_go_47 rfl (by decide) rfl ?_
    have hcf : held (V 8 0) (goF V (rgVal ars V) (V 8 1) m) (V 8 1) = false := by rw [← hz]; exact hc9.resolve_left (by omega)
    rw [hz] at hj hs
    refine lm_goB hM (fun I3 q1 q2 q3 q4 => ?_) 6 0 (by omega) J (fun j hj9 => absurd hj9 (by omega)) (fun _ _ => rfl)
    have h9 := K I3 (by rw [e9 _ hs]; exact h.go (fun a p1 p2 p3 p4 p5 => (q2 a p1 p2).trans (fj a p1 p3 p4 p5)) (fun k p1 p2 => (q3 k p2).trans (ff k p1)) (q4.trans hj.2.2.2.2.2.2.2.2.2.2.2.1) (fun i hi => (q1 i (by omega)).trans (hj.2.2.2.2.2.1 i hi))) ⟨fun a p => (q2 a (by omega) (by omega)).trans (fj a (by omega) (by omega) (by omega) (by omega)), fun k p => (q3 k (by omega)).trans (ff k (by omega))⟩
    rw [e9 _ hs, hcf] at h9
    simp only [Bool.false_eq_true, if_false, ↓reduceIte] at h9
    exact h9
  | succ w ih =>
    intro i hw J hj fj ff hs hc9
    have hi : i < m := by omega
    refine x_iload_n (pc := 22) dX10_go_22 rfl rfl ?_
    refine x_iload_n (pc := 23) dX10_go_23 rfl rfl ?_
    refine x_icmpn_ge_f (pc := 24) (tgt := 46) (a := i) (b := m) dX10_go_24 (by decide) (by omega) (by omega) (by omega) ?_
    refine x_iload_n (pc := 27) dX10_go_27 rfl rfl ?_
    refine x_if_ge_f (pc := 28) (tgt := 46) dX10_go_28 (by decide) (by decide) ?_
    refine x_aload_n (pc := 31) dX10_go_31 rfl rfl ?_
    refine x_callV (pc := 32) (As := []) dX10_go_32 km_X10_goTenth kv_X10_goTenth kl_RX10_344 hM.s rfl rfl (by decide) ⟨Nat.le_refl _, Nat.le_refl _⟩ rfl (Nat.le_of_ble_eq_true rfl) (Nat.le_of_ble_eq_true rfl) (m_goTenth hj (by omega) (fun I2 h3 f2 => ⟨rfl, rfl, ?_⟩))
    have h3 := (show MS sh R I2 M (V 8 0) (V 0) (V 1) (goF V (rgVal ars V) (V 8 1) (i + 1)) (V 3) (V 4) (V 8 1) (V 8 2 + (i + 1)) 0 (rgVal ars V) from h3)
    have hs2 : stp V (rgVal ars V) (i + 1) = i + 1 := by
      show (if 0 < stp V (rgVal ars V) i ∧ _ then _ else _) = _
      rw [hs, if_neg (fun q => hc9.elim (fun z => by omega) (fun z => by rw [z] at q; exact absurd q.2 (by decide)))]
    have g1 : ∀ a, a ≠ M → a ≠ M + 16 → a ≠ M + 17 → a ≠ M + 18 → I2 a = I a := fun a p1 p2 p3 p4 => (f2.1 a p1 p4 p2).trans (fj a p1 p2 p3 p4)
    have g2 : ∀ k, (k < 27 ∨ 37 < k) → I2 M k = I M k := fun k p => (f2.2 k (by omega) (by omega) (by omega)).trans (ff k p)
    refine x_aload_n (pc := 35) dX10_go_35 rfl rfl ?_
    refine x_callV (pc := 36) (As := []) dX10_go_36 km_X10_caught kv_X10_caught kl_RX10_347 hM.s rfl rfl (by decide) ⟨Nat.le_refl _, Nat.le_refl _⟩ rfl (Nat.le_of_ble_eq_true rfl) (Nat.le_of_ble_eq_true rfl) (m_caught hM h3.2.2.1 v6 h3.2.2.2.2.2.1 (fun i hi => (h3.2.2.2.2.2.2.2.2.1 i hi).2.2.1) h3.2.2.2.2.2.2.2.2.2.1 vta (fun k hk hkx hkm => ⟨rfl, rfl, ?_⟩) (fun hno => ⟨rfl, rfl, ?_⟩))
    · skip
      refine x_istore_n (pc := 39) (lv' := [(0, .ref M), (1, .int (nI m)), (2, .int (nI k)), (3, .int (nI i))]) dX10_go_39 rfl (by decide) rfl ?_
      refine x_iinc (pc := 40) (v := nI (i + 1)) (lv' := [(0, .ref M), (1, .int (nI m)), (2, .int (nI k)), (3, .int (nI (i + 1)))]) dX10_go_40 rfl (nI_1 _) (by decide) rfl ?_
      refine x_goto (pc := 43) (tgt := 22) dX10_go_43 (by decide) ?_
      refine lm_go22 hM (show k < 6 by omega) hm (show i + 1 ≤ 60 by omega) ?_
      refine lm_goB hM (fun I3 q1 q2 q3 q4 => ?_) 6 0 (by omega) I2 (fun j hj9 => absurd hj9 (by omega)) (fun _ _ => rfl)
      have hh : held (V 8 0) (goF V (rgVal ars V) (V 8 1) (i + 1)) (V 8 1) = true := held_t.mpr ⟨k, hk, hkx⟩
      have hst := stp_stay (V := V) (o := (rgVal ars V)) (k := i + 1) (by omega) hs2 hh (m - (i + 1))
      rw [show i + 1 + (m - (i + 1)) = m by omega] at hst
      have hfst : fstI (goF V (rgVal ars V) (V 8 1) (i + 1)) (V 8 1) (V 8 0) = k := fstI_of hkx (fun j hj => hkm j hj) _ hk
      have h9 := K I3 (by rw [e9 _ hst]; exact h.go (fun a p1 p2 p3 p4 p5 => (q2 a p1 p2).trans (g1 a p1 p3 p4 p5)) (fun k p1 p2 => (q3 k p2).trans (g2 k p1)) (q4.trans h3.2.2.2.2.2.2.2.2.2.2.2.1) (fun i hi => (q1 i (by omega)).trans (h3.2.2.2.2.2.1 i hi))) ⟨fun a p => (q2 a (by omega) (by omega)).trans (g1 a (by omega) (by omega) (by omega) (by omega)), fun k p => (q3 k (by omega)).trans (g2 k (by omega))⟩
      rw [e9 _ hst] at h9
      simp only [hh, if_true, ↓reduceIte] at h9
      rw [hfst] at h9
      rw [if_pos (nI_0le (by omega))]
      exact h9
    · skip
      refine x_istore_n (pc := 39) (lv' := [(0, .ref M), (1, .int (nI m)), (2, .int (-1)), (3, .int (nI i))]) dX10_go_39 rfl (by decide) rfl ?_
      refine x_iinc (pc := 40) (v := nI (i + 1)) (lv' := [(0, .ref M), (1, .int (nI m)), (2, .int (-1)), (3, .int (nI (i + 1)))]) dX10_go_40 rfl (nI_1 _) (by decide) rfl ?_
      refine x_goto (pc := 43) (tgt := 22) dX10_go_43 (by decide) ?_
      exact ih (i + 1) (by omega) I2 h3 g1 g2 hs2 (Or.inr (held_f (fun j hj => hno j hj)))

set_option maxHeartbeats 4000000 in
set_option maxRecDepth 100000 in
theorem m_go {T : xT} {n : Nat} {sh : Nat → Nat × Nat} {I : xI} {R : xR} {L : xL} {P : xPost} {M : Nat} (hM : xModel sh R M) {V : xV} {B rc : Nat} {ars : Nat → xAR} (h : MDV I M V) (hv : VOK V B) (hB : B < 800000) (hr : mRings I M rc ars) (hV6 : V 8 6 ≤ rc) {x : Int32} (K : ∀ I2 : xI, MDV I2 M (spGo V (rgVal ars V) x).2 → mdP M I I2 → P (n, sh, 0, 0) I2 R L (some (.int (spGo V (rgVal ars V) x).1))) : XM T zX10_go 6 [.ref M, .int x] n sh I R L P := by
  obtain ⟨v6, v12, v10, vb, vf, vw, vm, vta, vte, vod, vrg, vdi⟩ := id hv
  refine x_aload_n (pc := 0) dX10_go_0 rfl rfl ?_
  refine x_iload_n (pc := 1) dX10_go_1 rfl rfl ?_
  refine x_iconst (pc := 2) (v := 1) dX10_go_2 (by decide) ?_
  refine x_bipush (pc := 3) (v := 60) dX10_go_3 (by decide) ?_
  refine x_callV (pc := 5) (As := [.int _, .int _, .int _]) dX10_go_5 km_X10_in kv_X10_in kl_RX10_231 hM.s rfl rfl (by decide) ⟨Nat.le_refl _, Nat.le_refl _⟩ rfl (Nat.le_of_ble_eq_true rfl) (Nat.le_of_ble_eq_true rfl) (m_in hM.s (fun h1 h2 => ⟨rfl, rfl, ?_⟩) (fun h1 => ⟨rfl, rfl, ?_⟩))
  · skip
    obtain ⟨m, hm9, em⟩ := nI_of (fun q : x < 0 => h1 (Int32.lt_iff_toInt_lt.mpr (by have := Int32.lt_iff_toInt_lt.mp q; have e1 : (1 : Int32).toInt = 1 := rfl; have e0 : (0 : Int32).toInt = 0 := rfl; omega)))
    subst em
    have hm1 : 1 ≤ m := Nat.pos_of_ne_zero (fun q => h1 (by rw [q]; decide))
    have hm : m ≤ 60 := by
      rcases Nat.lt_or_ge 60 m with q | q
      · exact absurd ((nI_ltI (a := 60) (by decide) hm9).mpr q) h2
      · exact q
    refine x_if_ne_t (pc := 8) (tgt := 14) dX10_go_8 (by decide) (by decide) ?_
    refine x_aload_n (pc := 14) dX10_go_14 rfl rfl ?_
    refine x_callV (pc := 15) (As := []) dX10_go_15 km_X10_asIs kv_X10_asIs kl_RX10_338 hM.s rfl rfl (by decide) ⟨Nat.le_refl _, Nat.le_refl _⟩ rfl (Nat.le_of_ble_eq_true rfl) (Nat.le_of_ble_eq_true rfl) (m_asIs hM (fun I2 k1 k2 k3 k4 k5 k6 k7 => ⟨rfl, rfl, ?_⟩))
    refine x_iconst (pc := 18) (v := -1) dX10_go_18 (by decide) ?_
    refine x_istore_n (pc := 19) (lv' := [(0, .ref M), (1, .int (nI m)), (2, .int (-1))]) dX10_go_19 rfl (by decide) rfl ?_
    refine x_iconst (pc := 20) (v := 0) dX10_go_20 (by decide) ?_
    refine x_istore_n (pc := 21) (lv' := [(0, .ref M), (1, .int (nI m)), (2, .int (-1)), (3, .int 0)]) dX10_go_21 rfl (by decide) rfl ?_
    exact lm_go hM h hv hB hr hV6 hm1 hm K m 0 (by omega) I2 (h.toMS hM hv hB hr hV6 k1 k2 k3 k4 k5 k6 k7) (fun a p1 p2 p3 _ => k1 a p1 p2 p3) (fun k p => k2 k (by omega) (by omega) (by omega)) rfl (Or.inl rfl)
  · skip
    refine x_if_ne_f (pc := 8) (tgt := 14) dX10_go_8 (by decide) (by decide) ?_
    refine x_bipush (pc := 11) (v := -2) dX10_go_11 (by decide) ?_
    refine x_ireturn (pc := 13) dX10_go_13 ⟨_, rfl, rfl⟩ ⟨Nat.le_refl _, Nat.le_refl _⟩ ?_
    have e9 : spGo V (rgVal ars V) x = (-2, V) := if_pos h1
    have h9 := K I (by rw [e9]; exact h) mdP.rf
    rw [e9] at h9
    exact h9

