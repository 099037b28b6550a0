/-! ===== public methods: tamer, thunder, walk, film ===== -/
set_option maxHeartbeats 4000000 in
set_option maxRecDepth 100000 in
theorem c_tamer {T : xT} {n : Nat} {sh : Nat → Nat × Nat} {I : xI} {R : xR} {L : xL} {P : xPost} {lr nw im tr rd hu se ac M : Nat} (hG : GEO sh R lr nw im tr rd hu se ac M) {V : xV} {B : Nat} (h : FSC I nw V) (hv : VOK V B) {x : Int32} (K : ∀ I2 : xI, FSC I2 nw (spTamer V x).2 → (∀ a, (a < nw ∨ nw + 17 ≤ a) → I2 a = I a) → P (n, sh, 0, 0) I2 R L (some (.int (spTamer V x).1))) : XM T zX9_tamer 2 [.ref lr, .int x] n sh I R L P := by
  obtain ⟨v6, v12, v10, vb, vf, vw, vm, vta, vte, vod, vrg, vdi⟩ := id hv
  have r0 : bRow I (nw + 1) (V 8 0) (V 0) := h.row 0 (by decide)
  have r1 : bRow I (nw + 3) (V 8 0) (V 1) := h.row 1 (by decide)
  have r2 : bRow I (nw + 5) (V 8 0) (V 2) := h.row 2 (by decide)
  have r3 : bRow I (nw + 7) (V 8 0) (V 3) := h.row 3 (by decide)
  have r4 : bRow I (nw + 9) (V 8 0) (V 4) := h.row 4 (by decide)
  have r5 : bRow I (nw + 11) (V 8 0) (V 5) := h.row 5 (by decide)
  have r6 : bRow I (nw + 13) (V 8 4) (V 6) := h.row 6 (by decide)
  have r7 : bRow I (nw + 15) (V 8 5) (V 7) := h.row 7 (by decide)
  refine x_iload_n (pc := 0) dX9_tamer_0 rfl rfl ?_
  refine x_callS (pc := 1) (As := [.int _]) dX9_tamer_1 km_X9_isCell ks_X9_isCell kl_RX9_78 rfl (by decide) ⟨Nat.le_refl _, Nat.le_refl _⟩ rfl (Nat.le_of_ble_eq_true rfl) (Nat.le_of_ble_eq_true rfl) (c_isCell (fun k hk ek => ⟨rfl, rfl, ?_⟩) (fun h1 => ⟨rfl, rfl, ?_⟩))
  · skip
    subst ek
    refine x_if_ne_t (pc := 4) (tgt := 9) dX9_tamer_4 (by decide) (by decide) ?_
    refine x_aload_n (pc := 9) dX9_tamer_9 rfl rfl ?_
    refine x_getr (pc := 10) dX9_tamer_10 kf_RX9_12 hG.g_x rfl hG.g_f0 ?_
    refine x_iload_n (pc := 13) dX9_tamer_13 rfl rfl ?_
    refine x_callV (pc := 14) (As := [.int _]) dX9_tamer_14 km_X6_holdsBeast kv_X6_holdsBeast kl_RX9_85 hG.g_nw.1 rfl rfl (by decide) ⟨Nat.le_refl _, Nat.le_refl _⟩ rfl (Nat.le_of_ble_eq_true rfl) (Nat.le_of_ble_eq_true rfl) (c_holdsBeast (x := k) hG.g_nw r2 v6 (fun i hi => (vb i hi).2.2.1) hk (fun hh => ⟨rfl, rfl, ?_⟩) (fun hf => ⟨rfl, rfl, ?_⟩))
    · skip
      refine x_if_eq_f (pc := 17) (tgt := 23) dX9_tamer_17 (by decide) (by decide) ?_
      refine x_bipush (pc := 20) (v := -3) dX9_tamer_20 (by decide) ?_
      refine x_ireturn (pc := 22) dX9_tamer_22 ⟨_, rfl, rfl⟩ ⟨Nat.le_refl _, Nat.le_refl _⟩ ?_
      have e9 : spTamer V (nI k) = (-3, V) := by
        unfold spTamer; rw [idx_s hk (by decide)]; exact if_pos hh
      have h9 := K _ (by rw [e9]; exact h) (fun _ _ => rfl)
      rw [e9] at h9
      exact h9
    · skip
      refine x_if_eq_t (pc := 17) (tgt := 23) dX9_tamer_17 (by decide) (by decide) ?_
      refine x_aload_n (pc := 23) dX9_tamer_23 rfl rfl ?_
      refine x_getr (pc := 24) dX9_tamer_24 kf_RX9_12 hG.g_x rfl hG.g_f0 ?_
      refine x_get (pc := 27) dX9_tamer_27 kf_RX9_88 hG.g_nw.1 rfl ?_
      rw [h.2.1]
      refine x_istore_n (pc := 30) (lv' := [(0, .ref lr), (1, .int (nI k)), (2, .int (nI (V 8 1)))]) dX9_tamer_30 rfl (by decide) rfl ?_
      refine x_aload_n (pc := 31) dX9_tamer_31 rfl rfl ?_
      refine x_getr (pc := 32) dX9_tamer_32 kf_RX9_12 hG.g_x rfl hG.g_f0 ?_
      refine x_iload_n (pc := 35) dX9_tamer_35 rfl rfl ?_
      refine x_put (pc := 36) dX9_tamer_36 kf_RX9_88 hG.g_nw.1 rfl (Or.inl kb_6_8) ?_
      refine x_iload_n (pc := 39) dX9_tamer_39 rfl rfl ?_
      refine x_ireturn (pc := 40) dX9_tamer_40 ⟨_, rfl, rfl⟩ ⟨Nat.le_refl _, Nat.le_refl _⟩ ?_
      have e9 : spTamer V (nI k) = (nI (V 8 1), up2 V 8 1 k) := by
        unfold spTamer; rw [idx_s hk (by decide)]; exact if_neg (by rw [hf]; decide)
      have h9 := K _ (by rw [e9]; exact h.sc1 (Or.inl ⟨rfl, rfl⟩)) (fun a ha => up2_row (by omega))
      rw [e9] at h9
      exact h9
  · skip
    refine x_if_ne_f (pc := 4) (tgt := 9) dX9_tamer_4 (by decide) (by decide) ?_
    refine x_iconst (pc := 7) (v := -1) dX9_tamer_7 (by decide) ?_
    refine x_ireturn (pc := 8) dX9_tamer_8 ⟨_, rfl, rfl⟩ ⟨Nat.le_refl _, Nat.le_refl _⟩ ?_
    have e9 : spTamer V x = (-1, V) := by
      unfold spTamer; rw [cell_n h1]
    have h9 := K _ (by rw [e9]; exact h) (fun _ _ => rfl)
    rw [e9] at h9
    exact h9

theorem in10_k {x : Int32} (h1 : ¬ x < 0) (h2 : ¬ 10 < x) : ∃ k : Nat, k < 11 ∧ x = nI k := by
  obtain ⟨j, hj, rfl⟩ := nI_of h1
  refine ⟨j, ?_, rfl⟩
  rcases Nat.lt_or_ge j 11 with h | h
  · exact h
  · exact absurd ((nI_ltI (a := 10) (by decide) hj).mpr (by omega)) h2
set_option maxHeartbeats 4000000 in
set_option maxRecDepth 100000 in
theorem c_thunder {T : xT} {n : Nat} {sh : Nat → Nat × Nat} {I : xI} {R : xR} {L : xL} {P : xPost} {lr nw im tr rd hu se ac M : Nat} (hG : GEO sh R lr nw im tr rd hu se ac M) {V : xV} {B : Nat} (h : FSC I nw V) (hv : VOK V B) {x : Int32} (K : ∀ I2 : xI, FSC I2 nw (spThunder V x).2 → (∀ a, (a < nw ∨ nw + 17 ≤ a) → I2 a = I a) → P (n, sh, 0, 0) I2 R L (some (.int (spThunder V x).1))) : XM T zX9_thunder 1 [.ref lr, .int x] n sh I R L P := by
  obtain ⟨v6, v12, v10, vb, vf, vw, vm, vta, vte, vod, vrg, vdi⟩ := id hv
  refine x_iload_n (pc := 0) dX9_thunder_0 rfl rfl ?_
  refine x_iconst (pc := 1) (v := 0) dX9_thunder_1 (by decide) ?_
  refine x_bipush (pc := 2) (v := 10) dX9_thunder_2 (by decide) ?_
  refine x_callS (pc := 4) (As := [.int _, .int _, .int _]) dX9_thunder_4 km_X9_isWithin ks_X9_isWithin kl_RX9_81 rfl (by decide) ⟨Nat.le_refl _, Nat.le_refl _⟩ rfl (Nat.le_of_ble_eq_true rfl) (Nat.le_of_ble_eq_true rfl) (c_isWithin (fun h1 h2 => ⟨rfl, rfl, ?_⟩) (fun h1 => ⟨rfl, rfl, ?_⟩))
  · skip
    obtain ⟨k, hk, ek⟩ := in10_k h1 h2
    subst ek
    refine x_if_ne_t (pc := 7) (tgt := 13) dX9_thunder_7 (by decide) (by decide) ?_
    refine x_aload_n (pc := 13) dX9_thunder_13 rfl rfl ?_
    refine x_getr (pc := 14) dX9_thunder_14 kf_RX9_12 hG.g_x rfl hG.g_f0 ?_
    refine x_get (pc := 17) dX9_thunder_17 kf_RX9_250 hG.g_nw.1 rfl ?_
    rw [h.2.2.2.1]
    refine x_istore_n (pc := 20) (lv' := [(0, .ref lr), (1, .int (nI k)), (2, .int (nI (V 8 3)))]) dX9_thunder_20 rfl (by decide) rfl ?_
    refine x_aload_n (pc := 21) dX9_thunder_21 rfl rfl ?_
    refine x_getr (pc := 22) dX9_thunder_22 kf_RX9_12 hG.g_x rfl hG.g_f0 ?_
    refine x_iload_n (pc := 25) dX9_thunder_25 rfl rfl ?_
    refine x_put (pc := 26) dX9_thunder_26 kf_RX9_250 hG.g_nw.1 rfl (Or.inl kb_6_10) ?_
    refine x_iload_n (pc := 29) dX9_thunder_29 rfl rfl ?_
    refine x_ireturn (pc := 30) dX9_thunder_30 ⟨_, rfl, rfl⟩ ⟨Nat.le_refl _, Nat.le_refl _⟩ ?_
    have e9 : spThunder V (nI k) = (nI (V 8 3), up2 V 8 3 k) := by
      unfold spThunder; rw [idx_s hk (by decide)]
    have h9 := K _ (by rw [e9]; exact h.sc1 (Or.inr (Or.inr ⟨rfl, rfl⟩))) (fun a ha => up2_row (by omega))
    rw [e9] at h9
    exact h9
  · skip
    refine x_if_ne_f (pc := 7) (tgt := 13) dX9_thunder_7 (by decide) (by decide) ?_
    refine x_bipush (pc := 10) (v := -2) dX9_thunder_10 (by decide) ?_
    refine x_ireturn (pc := 12) dX9_thunder_12 ⟨_, rfl, rfl⟩ ⟨Nat.le_refl _, Nat.le_refl _⟩ ?_
    have e9 : spThunder V x = (-2, V) := by
      unfold spThunder; rw [idx_n (h1.imp id (fun h => le_of_lt1 (n := 10) (by decide) h))]
    have h9 := K _ (by rw [e9]; exact h) (fun _ _ => rfl)
    rw [e9] at h9
    exact h9

set_option maxHeartbeats 4000000 in
set_option maxRecDepth 100000 in
theorem lm_beastIn {T : xT} {n : Nat} {sh : Nat → Nat × Nat} {I : xI} {R : xR} {L : xL} {P : xPost} {M nb : Nat} {ce : Nat → Nat} (hM : xModel sh R M) (hnb : I M 0 = nI nb) (hn6 : nb ≤ 6) (hc : ∀ i, i < nb → I (M + 3) i = nI (ce i)) (hce : ∀ i, i < nb → ce i < 36) {x : Nat} (hx : x < 36) (K1 : ∀ k, k < 36 → held nb ce x = true → P (n, sh, 0, 0) I R L (some (.int (nI k)))) (K2 : held nb ce x = false → P (n, sh, 0, 0) I R L (some (.int (-1)))) : ∀ (w i : Nat), i + w = nb → (∀ j, j < i → ¬ ce j = x) → X T zX10_beastIn 0 0 0 P 2 [(0, .ref M), (1, .int (nI x)), (2, .int (nI i))] [] (n, sh, 0, 0) (I) R L := by
  intro w
  induction w with
  | zero =>
    intro i hw hno
    have hz : i = nb := by omega
    refine x_iload_n (pc := 2) dX10_beastIn_2 rfl rfl ?_
    refine x_aload_n (pc := 3) dX10_beastIn_3 rfl rfl ?_
    refine x_get (pc := 4) dX10_beastIn_4 kf_RX10_7 hM.s rfl ?_
    rw [hnb]
    refine x_icmpn_ge_t (pc := 7) (tgt := 28) (a := i) (b := nb) dX10_beastIn_7 (by decide) (by omega) (by omega) (by omega) ?_
    refine x_iconst (pc := 28) (v := -1) dX10_beastIn_28 (by decide) ?_
    refine x_ireturn (pc := 29) dX10_beastIn_29 ⟨_, rfl, rfl⟩ ⟨Nat.le_refl _, Nat.le_refl _⟩ ?_
    exact K2 (held_f (fun j hj => hno j (by omega)))
  | succ w ih =>
    intro i hw hno
    have hi : i < nb := by omega
    refine x_iload_n (pc := 2) dX10_beastIn_2 rfl rfl ?_
    refine x_aload_n (pc := 3) dX10_beastIn_3 rfl rfl ?_
    refine x_get (pc := 4) dX10_beastIn_4 kf_RX10_7 hM.s rfl ?_
    rw [hnb]
    refine x_icmpn_ge_f (pc := 7) (tgt := 28) (a := i) (b := nb) dX10_beastIn_7 (by decide) (by omega) (by omega) (by omega) ?_
    refine x_aload_n (pc := 10) dX10_beastIn_10 rfl rfl ?_
    refine x_getr (pc := 11) dX10_beastIn_11 kf_RX10_29 hM.s rfl hM.f2 ?_
    refine x_iload_n (pc := 14) dX10_beastIn_14 rfl rfl ?_
    refine x_ialdn (pc := 15) (a := i) dX10_beastIn_15 hM.s2 (by omega) (by omega) ?_
    rw [hc i hi]
    have hci := hce i hi
    refine x_iload_n (pc := 16) dX10_beastIn_16 rfl rfl ?_
    refine x_icmpn_ne (pc := 17) (tgt := 22) (a := (ce i)) (b := x) dX10_beastIn_17 (by decide) (by omega) (by omega) (fun c17 => ?_) (fun c17 => ?_)
    · skip
      refine x_iinc (pc := 22) (v := nI (i + 1)) (lv' := [(0, .ref M), (1, .int (nI x)), (2, .int (nI (i + 1)))]) dX10_beastIn_22 rfl (nI_1 _) (by decide) rfl ?_
      refine x_goto (pc := 25) (tgt := 2) dX10_beastIn_25 (by decide) ?_
      exact ih (i + 1) (by omega) (fun j hj9 => (Nat.lt_succ_iff_lt_or_eq.mp hj9).elim (hno j) (fun e9 => by subst e9; exact c17))
    · skip
      refine x_iload_n (pc := 20) dX10_beastIn_20 rfl rfl ?_
      refine x_ireturn (pc := 21) dX10_beastIn_21 ⟨_, rfl, rfl⟩ ⟨Nat.le_refl _, Nat.le_refl _⟩ ?_
      exact K1 i (by omega) (held_t.mpr ⟨i, hi, c17⟩)

set_option maxHeartbeats 4000000 in
set_option maxRecDepth 100000 in
theorem m_beastIn {T : xT} {n : Nat} {sh : Nat → Nat × Nat} {I : xI} {R : xR} {L : xL} {P : xPost} {M nb : Nat} {ce : Nat → Nat} (hM : xModel sh R M) (hnb : I M 0 = nI nb) (hn6 : nb ≤ 6) (hc : ∀ i, i < nb → I (M + 3) i = nI (ce i)) (hce : ∀ i, i < nb → ce i < 36) {x : Nat} (hx : x < 36) (K1 : ∀ k, k < 36 → held nb ce x = true → P (n, sh, 0, 0) I R L (some (.int (nI k)))) (K2 : held nb ce x = false → P (n, sh, 0, 0) I R L (some (.int (-1)))) : XM T zX10_beastIn 0 [.ref M, .int (nI x)] n sh I R L P := by
  refine x_iconst (pc := 0) (v := 0) dX10_beastIn_0 (by decide) ?_
  refine x_istore_n (pc := 1) (lv' := [(0, .ref M), (1, .int (nI x)), (2, .int 0)]) dX10_beastIn_1 rfl (by decide) rfl ?_
  exact lm_beastIn hM hnb hn6 hc hce hx K1 K2 nb 0 (by omega) (fun j hj => absurd hj (by omega))

set_option maxHeartbeats 4000000 in
set_option maxRecDepth 100000 in
theorem m_tamer {T : xT} {n : Nat} {sh : Nat → Nat × Nat} {I : xI} {R : xR} {L : xL} {P : xPost} {M : Nat} (hM : xModel sh R M) {V : xV} {B : Nat} (h : MDV I M V) (hv : VOK V B) {x : Int32} (K : ∀ I2 : xI, MDV I2 M (spTamer V x).2 → (∀ a, a ≠ M → I2 a = I a) → (∀ k, k ≠ 1 → I2 M k = I M k) → P (n, sh, 0, 0) I2 R L (some (.int (spTamer V x).1))) : XM T zX10_tamer 2 [.ref M, .int x] n sh I R L P := by
  obtain ⟨v6, v12, v10, vb, vf, vw, vm, vta, vte, vod, vrg, vdi⟩ := id hv
  refine x_aload_n (pc := 0) dX10_tamer_0 rfl rfl ?_
  refine x_iload_n (pc := 1) dX10_tamer_1 rfl rfl ?_
  refine x_callV (pc := 2) (As := [.int _]) dX10_tamer_2 km_X10_isCell kv_X10_isCell kl_RX10_235 hM.s rfl rfl (by decide) ⟨Nat.le_refl _, Nat.le_refl _⟩ rfl (Nat.le_of_ble_eq_true rfl) (Nat.le_of_ble_eq_true rfl) (m_isCell hM.s (fun k hk ek => ⟨rfl, rfl, ?_⟩) (fun h1 => ⟨rfl, rfl, ?_⟩))
  · skip
    subst ek
    refine x_if_ne_t (pc := 5) (tgt := 10) dX10_tamer_5 (by decide) (by decide) ?_
    refine x_aload_n (pc := 10) dX10_tamer_10 rfl rfl ?_
    refine x_iload_n (pc := 11) dX10_tamer_11 rfl rfl ?_
    refine x_callV (pc := 12) (As := [.int _]) dX10_tamer_12 km_X10_beastIn kv_X10_beastIn kl_RX10_239 hM.s rfl rfl (by decide) ⟨Nat.le_refl _, Nat.le_refl _⟩ rfl (Nat.le_of_ble_eq_true rfl) (Nat.le_of_ble_eq_true rfl) (m_beastIn (x := k) hM h.1 v6 (fun i hi => h.2.2.2.2.2.2.2.1 2 (by decide) i hi) (fun i hi => (vb i hi).2.2.1) hk (fun k2 hk2 hh => ⟨rfl, rfl, ?_⟩) (fun hf => ⟨rfl, rfl, ?_⟩))
    · skip
      refine x_ifn_lt (pc := 15) (a := k2) dX10_tamer_15 ⟨21, by decide⟩ (by omega) ?_
      refine x_bipush (pc := 18) (v := -3) dX10_tamer_18 (by decide) ?_
      refine x_ireturn (pc := 20) dX10_tamer_20 ⟨_, rfl, rfl⟩ ⟨Nat.le_refl _, Nat.le_refl _⟩ ?_
      have e9 : spTamer V (nI k) = (-3, V) := by
        unfold spTamer; rw [idx_s hk (by decide)]; exact if_pos hh
      have h9 := K _ (by rw [e9]; exact h) (fun _ _ => rfl) (fun _ _ => rfl)
      rw [e9] at h9
      exact h9
    · skip
      refine x_if_lt_t (pc := 15) (tgt := 21) dX10_tamer_15 (by decide) (by decide) ?_
      refine x_aload_n (pc := 21) dX10_tamer_21 rfl rfl ?_
      refine x_get (pc := 22) dX10_tamer_22 kf_RX10_13 hM.s rfl ?_
      rw [h.2.1]
      refine x_istore_n (pc := 25) (lv' := [(0, .ref M), (1, .int (nI k)), (2, .int (nI (V 8 1)))]) dX10_tamer_25 rfl (by decide) rfl ?_
      refine x_aload_n (pc := 26) dX10_tamer_26 rfl rfl ?_
      refine x_iload_n (pc := 27) dX10_tamer_27 rfl rfl ?_
      refine x_put (pc := 28) dX10_tamer_28 kf_RX10_13 hM.s rfl (Or.inl kb_10_1) ?_
      refine x_iload_n (pc := 31) dX10_tamer_31 rfl rfl ?_
      refine x_ireturn (pc := 32) dX10_tamer_32 ⟨_, rfl, rfl⟩ ⟨Nat.le_refl _, Nat.le_refl _⟩ ?_
      have e9 : spTamer V (nI k) = (nI (V 8 1), up2 V 8 1 k) := by
        unfold spTamer; rw [idx_s hk (by decide)]; exact if_neg (by rw [hf]; decide)
      have h9 := K _ (by rw [e9]; exact h.sc1 (Or.inl rfl)) (fun a ha => up2_row ha) (fun k hk => up2_k (by omega))
      rw [e9] at h9
      exact h9
  · skip
    refine x_if_ne_f (pc := 5) (tgt := 10) dX10_tamer_5 (by decide) (by decide) ?_
    refine x_iconst (pc := 8) (v := -1) dX10_tamer_8 (by decide) ?_
    refine x_ireturn (pc := 9) dX10_tamer_9 ⟨_, rfl, rfl⟩ ⟨Nat.le_refl _, Nat.le_refl _⟩ ?_
    have e9 : spTamer V x = (-1, V) := by
      unfold spTamer; rw [cell_n h1]
    have h9 := K _ (by rw [e9]; exact h) (fun _ _ => rfl) (fun _ _ => rfl)
    rw [e9] at h9
    exact h9

set_option maxHeartbeats 4000000 in
set_option maxRecDepth 100000 in
theorem m_thunder {T : xT} {n : Nat} {sh : Nat → Nat × Nat} {I : xI} {R : xR} {L : xL} {P : xPost} {M : Nat} (hM : xModel sh R M) {V : xV} {B : Nat} (h : MDV I M V) (hv : VOK V B) {x : Int32} (K : ∀ I2 : xI, MDV I2 M (spThunder V x).2 → (∀ a, a ≠ M → I2 a = I a) → (∀ k, k ≠ 3 → I2 M k = I M k) → P (n, sh, 0, 0) I2 R L (some (.int (spThunder V x).1))) : XM T zX10_thunder 1 [.ref M, .int x] n sh I R L P := by
  obtain ⟨v6, v12, v10, vb, vf, vw, vm, vta, vte, vod, vrg, vdi⟩ := id hv
  refine x_aload_n (pc := 0) dX10_thunder_0 rfl rfl ?_
  refine x_iload_n (pc := 1) dX10_thunder_1 rfl rfl ?_
  refine x_iconst (pc := 2) (v := 0) dX10_thunder_2 (by decide) ?_
  refine x_bipush (pc := 3) (v := 10) dX10_thunder_3 (by decide) ?_
  refine x_callV (pc := 5) (As := [.int _, .int _, .int _]) dX10_thunder_5 km_X10_in kv_X10_in kl_RX10_231 hM.s rfl rfl (by decide) ⟨Nat.le_refl _, Nat.le_refl _⟩ rfl (Nat.le_of_ble_eq_true rfl) (Nat.le_of_ble_eq_true rfl) (m_in hM.s (fun h1 h2 => ⟨rfl, rfl, ?_⟩) (fun h1 => ⟨rfl, rfl, ?_⟩))
  · skip
    obtain ⟨k, hk, ek⟩ := in10_k h1 h2
    subst ek
    refine x_if_ne_t (pc := 8) (tgt := 14) dX10_thunder_8 (by decide) (by decide) ?_
    refine x_aload_n (pc := 14) dX10_thunder_14 rfl rfl ?_
    refine x_get (pc := 15) dX10_thunder_15 kf_RX10_19 hM.s rfl ?_
    rw [h.2.2.2.1]
    refine x_istore_n (pc := 18) (lv' := [(0, .ref M), (1, .int (nI k)), (2, .int (nI (V 8 3)))]) dX10_thunder_18 rfl (by decide) rfl ?_
    refine x_aload_n (pc := 19) dX10_thunder_19 rfl rfl ?_
    refine x_iload_n (pc := 20) dX10_thunder_20 rfl rfl ?_
    refine x_put (pc := 21) dX10_thunder_21 kf_RX10_19 hM.s rfl (Or.inl kb_10_3) ?_
    refine x_iload_n (pc := 24) dX10_thunder_24 rfl rfl ?_
    refine x_ireturn (pc := 25) dX10_thunder_25 ⟨_, rfl, rfl⟩ ⟨Nat.le_refl _, Nat.le_refl _⟩ ?_
    have e9 : spThunder V (nI k) = (nI (V 8 3), up2 V 8 3 k) := by
      unfold spThunder; rw [idx_s hk (by decide)]
    have h9 := K _ (by rw [e9]; exact h.sc1 (Or.inr (Or.inr rfl))) (fun a ha => up2_row ha) (fun k hk => up2_k (by omega))
    rw [e9] at h9
    exact h9
  · skip
    refine x_if_ne_f (pc := 8) (tgt := 14) dX10_thunder_8 (by decide) (by decide) ?_
    refine x_bipush (pc := 11) (v := -2) dX10_thunder_11 (by decide) ?_
    refine x_ireturn (pc := 13) dX10_thunder_13 ⟨_, rfl, rfl⟩ ⟨Nat.le_refl _, Nat.le_refl _⟩ ?_
    have e9 : spThunder V x = (-2, V) := by
      unfold spThunder; rw [idx_n (h1.imp id (fun h => le_of_lt1 (n := 10) (by decide) h))]
    have h9 := K _ (by rw [e9]; exact h) (fun _ _ => rfl) (fun _ _ => rfl)
    rw [e9] at h9
    exact h9

