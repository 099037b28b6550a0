/-! ===== the law from its first instruction ===== -/
def W0 : xW := fun _ => (-1, 0, fun _ => 0)
theorem vld_new : VLD V0 0 (0, fun _ => 0) W0 [] none (10 * 0) := ⟨⟨⟨by decide, by decide, by decide, fun i hi => absurd hi (Nat.not_lt_zero i), fun i hi => absurd hi (Nat.not_lt_zero i), fun i hi => absurd hi (Nat.not_lt_zero i), fun i hi => absurd hi (Nat.not_lt_zero i), by decide, by decide, by decide, by decide, fun i j hi => absurd hi (Nat.not_lt_zero i)⟩, fun i j hi => absurd hi (Nat.not_lt_zero i), by decide⟩, XOK.e0, fun t _ => ⟨Nat.zero_le _, Or.inl ⟨rfl, rfl⟩⟩, by decide, fun U hU => by cases hU⟩
theorem geo_new {sh : Nat → Nat × Nat} {I : xI} {R : xR} (h : QLR sh I R) (m : xModel sh R 137) : GEO sh R 0 1 19 37 55 66 72 79 137 := by
  obtain ⟨h0, f0, f1, f2, f4, f5, f7, f8, f9, f10, i3, i6, s1, s2, s3, rd, hu, se, ac, ra, rg, ta, ts⟩ := h
  obtain ⟨d1, d2, d3, d4, d5, d6⟩ := rd
  obtain ⟨u1, u2, u3, u4, u5, u6, u7⟩ := hu
  obtain ⟨e1, e2, e3, e4, e5, e6, e7⟩ := se
  obtain ⟨c1, c2, c3, c4, c5⟩ := ac
  refine ⟨rfl, rfl, rfl, rfl, rfl, rfl, rfl, rfl, rfl, h0, f0, f1, f2, f4, f5, f7, f8, f9, f10, s1.1, s2.1, s3.1, d1, d2, d3, d4, d5, ra, fun i hi => (rg i hi).2, fun i hi => (rg i hi).1, u1, u2, u3, u4, u5, u6, u7, e1, e2, e3, e4, e5, e6, e7, c1, c2, c3, ta, fun i hi => (ts i hi).2, fun i hi => ?_, m⟩
  obtain ⟨t1, t2, t3, t4, t5⟩ := (ts i hi).1
  rw [show 126 + 2 * i = 125 + 2 * i + 1 by omega]
  exact ⟨t1, t2, t3⟩
theorem cst_new {sh : Nat → Nat × Nat} {I : xI} {R : xR} {L : xL} {ars : Nat → xAR} (h : QLR sh I R) (m : xModel sh R 137) : CST sh I R L V0 0 ars (0, fun _ => 0) W0 [] none := by
  have g := geo_new h m
  obtain ⟨h0, f0, f1, f2, f4, f5, f7, f8, f9, f10, i3, i6, s1, s2, s3, rd, hu, se, ac, ra, rg, ta, ts⟩ := h
  refine ⟨g, s1.2.1, ⟨by decide, i6, fun j hj => absurd hj (Nat.not_lt_zero j)⟩, s1.2.2, ⟨rd.2.2.2.2.2, fun i hi => absurd hi (Nat.not_lt_zero i)⟩, fun t ht => ⟨(ts t ht).1.2.2.2.1, (ts t ht).1.2.2.2.2, fun i hi => absurd hi (Nat.not_lt_zero i)⟩, ⟨ac.2.2.2.1, ac.2.2.2.2, fun i hi => absurd hi (Nat.not_lt_zero i)⟩, i3⟩
theorem lwd_w : ∀ i, i < 3 → ∀ k, k < 6 → (k + 1 < wlen i → lwd.getD (wfr i + k) 0 = nI (wdC i k) ∧ wfr i + k < 13) := by decide
theorem mst_new {sh : Nat → Nat × Nat} {I : xI} {R : xR} {L : xL} {ars : Nat → xAR} (h : QMD sh I R) : MST I L V0 0 ars (0, fun _ => 0) W0 [] none := by
  obtain ⟨m, i0, i1, i2, i3, i10, i11, i12, i38, i46, i48, i64, il, it, iu⟩ := h
  refine ⟨⟨i0, i1, i2, i3, i38, i46, i11.trans (by decide), fun j _ i hi => absurd hi (Nat.not_lt_zero i), fun i hi => absurd hi (Nat.not_lt_zero i), fun i hi => absurd hi (Nat.not_lt_zero i)⟩, ⟨by decide, i10, fun j hj => absurd hj (Nat.not_lt_zero j)⟩, fun j hj => absurd hj (Nat.not_lt_zero j), ⟨i12, fun i hi => absurd hi (Nat.not_lt_zero i)⟩, fun i k hi hk => ?_, fun t ht => ⟨it t ht, iu t ht, fun i hi => absurd hi (Nat.not_lt_zero i)⟩, ⟨i64, fun i hi => absurd hi (Nat.not_lt_zero i)⟩, i48⟩
  have h7 := wlen_lt i hi
  obtain ⟨e1, e2⟩ := lwd_w i hi k (by omega) hk
  exact (il _ e2).trans e1

set_option maxHeartbeats 4000000 in
set_option maxRecDepth 100000 in
theorem lw_all {T : xT} {P : xPost} (hT : T.1 ≤ 3072) (hP : ∀ (g : xG) (I : xI) (R : xR) (L : xL), P g I R L (some (.int 1))) : X T zL_law 30 600000 7302250 P 0 [(0, .ref 1000000)] [] (0, fun _ => (6, 0), 0, 0) (fun _ _ => 0) (fun _ _ => none) (fun _ _ => 0) := by
  have F : FRS 0 (fun _ _ => 0) (fun _ _ => none) (fun _ _ => 0) := ⟨by decide, fun _ _ _ => rfl, fun _ _ _ => rfl, fun _ _ _ => rfl, fun _ _ _ h => by cases h⟩
  refine x_newK (pc := 0) (ca1 := 1) (sa1 := 11) (n1 := 1) dL_law_0 kc_RL_7 F (fun _ h => absurd h List.not_mem_nil) (List.forall_mem_cons.mpr ⟨xvs_ok, fun _ h => absurd h List.not_mem_nil⟩) rfl rfl rfl (by decide) (by decide) (fun sh1 a1 b1 => ?_)
  have F1 := F.next (by omega)
  refine x_dup (pc := 3) dL_law_3 rfl ?_
  refine x_callI (pc := 4) (ci := 0) (As := []) (mc := 136) (ms := 5360) (r := 0) dL_law_4 km_X9_init ki_X9_init rfl rfl kl_RL_9 rfl (by decide) ⟨Nat.le_of_ble_eq_true rfl, Nat.le_of_ble_eq_true rfl⟩ rfl (Nat.le_of_ble_eq_true rfl) (Nat.le_of_ble_eq_true rfl) ⟨by omega, (List.forall_mem_cons.mpr ⟨xvr_ok (by omega), fun _ h => absurd h List.not_mem_nil⟩), (List.forall_mem_cons.mpr ⟨xvs_ok, fun _ h => absurd h List.not_mem_nil⟩)⟩ (i_lion F1 a1 (fun sh2 J2 S2 h2 F2 => ⟨rfl, ?_⟩))
  show X T zL_law 30 600000 7302250 P 7 [(0, .ref 1000000)] [.ref 0] (137, sh2, 137, 5371) J2 S2 (fun _ _ => 0)
  refine x_astore_n (pc := 7) (lv' := [(0, .ref 1000000), (1, .ref 0)]) dL_law_7 rfl (by decide) rfl ?_
  refine x_newK (pc := 8) (ca1 := 138) (sa1 := 5441) (n1 := 138) dL_law_8 kc_RL_10 F2 (fun _ h => absurd h List.not_mem_nil) (List.forall_mem_cons.mpr ⟨xvs_ok, List.forall_mem_cons.mpr ⟨xvr_ok (by omega), fun _ h => absurd h List.not_mem_nil⟩⟩) rfl rfl rfl (by decide) (by decide) (fun sh3 a3 b3 => ?_)
  have F3 := F2.next (by omega)
  refine x_dup (pc := 11) dL_law_11 rfl ?_
  refine x_callI (pc := 12) (ci := 0) (As := []) (mc := 39) (ms := 1757) (r := 137) dL_law_12 km_X10_init ki_X10_init rfl rfl kl_RL_12 rfl (by decide) ⟨Nat.le_of_ble_eq_true rfl, Nat.le_of_ble_eq_true rfl⟩ rfl (Nat.le_of_ble_eq_true rfl) (Nat.le_of_ble_eq_true rfl) ⟨by omega, (List.forall_mem_cons.mpr ⟨xvr_ok (by omega), fun _ h => absurd h List.not_mem_nil⟩), (List.forall_mem_cons.mpr ⟨xvs_ok, List.forall_mem_cons.mpr ⟨xvr_ok (by omega), fun _ h => absurd h List.not_mem_nil⟩⟩)⟩ (i_model F2 a3 (fun sh4 J4 S4 q o => ⟨rfl, ?_⟩))
  show X T zL_law 30 600000 7302250 P 15 [(0, .ref 1000000), (1, .ref 0)] [.ref 137] (177, sh4, 177, 7198) J4 S4 (fun _ _ => 0)
  refine x_astore_n (pc := 15) (lv' := [(0, .ref 1000000), (1, .ref 0), (2, .ref 137)]) dL_law_15 rfl (by decide) rfl ?_
  refine x_iconst (pc := 16) (v := 0) dL_law_16 (by decide) ?_
  refine x_istore_n (pc := 17) (lv' := [(0, .ref 1000000), (1, .ref 0), (2, .ref 137), (3, .int 0)]) dL_law_17 rfl (by decide) rfl ?_
  have q1 : QLR sh4 J4 S4 := h2 sh4 J4 S4 (fun a _ z => ⟨(o a z).1.trans (b3 a (by omega)), (o a z).2.1, (o a z).2.2⟩)
  exact lw_loop ⟨by decide, by decide⟩ hT (fun I R L => hP _ I R L) (T.1 + 1) 0 (by omega) (Nat.zero_le _) J4 S4 (fun _ _ => 0) V0 0 (fun _ => (0, fun _ => 0, fun _ => 0, fun _ _ _ _ _ _ => false)) (0, fun _ => 0) W0 [] none (cst_new q1 q.1) (mst_new q) vld_new

