/-! ===== Scene: deeds ===== -/
def dCome (nb : Nat) (ce : Nat → Nat) (into : Bool) (ta goal own code : Nat) : Nat × Nat := if cPk nb ce into ta goal own 4 = own then (0, own) else (code, cPk nb ce into ta goal own 4)
def yDeed (nb : Nat) (ce : Nat → Nat) (k e s ta own : Nat) (flees : Bool) : Nat × Nat :=
  if flees = true then (if yPk nb ce ta own 4 = own then (if k = 4 then dCome nb ce true ta ta own 2 else (0, own)) else (1, yPk nb ce ta own 4))
  else if k = 5 then (if far own s ≤ e then dCome nb ce false ta s own 3 else (0, own)) else (0, own)
def deedF (nb : Nat) (ce : Nat → Nat) (k e s ta te y c own : Nat) : Nat × Nat :=
  if k = 3 ∧ 0 < e ∧ te % e = 0 then (0, own)
  else if isOne k 1 = true then yDeed nb ce k e s ta own (decide (far own ta ≤ c) || decide (far own ta ≤ y))
  else if far own ta ≤ c then (if k = 6 then dCome nb ce false ta ta own 2 else dCome nb ce true ta ta own 2)
  else if far own ta ≤ y then (if yPk nb ce ta own 4 = own then (0, own) else (1, yPk nb ce ta own 4)) else (0, own)
def deedN (nb : Nat) (ki ve ce sto hu : Nat → Nat) (ta te lo : Nat) (LN : xLN) (bi : Nat) : Nat × Nat := deedF nb ce (ki bi) (ve bi) (sto bi) ta te (ylOf (lnAt LN nb ce hu te bi) lo) (clOf (lnAt LN nb ce hu te bi) (ki bi) (ve bi) lo) (ce bi)
theorem dCome_y {nb : Nat} {ce : Nat → Nat} {into : Bool} {ta goal own code : Nat} (h : ¬ cPk nb ce into ta goal own 4 = own) : dCome nb ce into ta goal own code = (code, cPk nb ce into ta goal own 4) := if_neg h
theorem dCome_n {nb : Nat} {ce : Nat → Nat} {into : Bool} {ta goal own code : Nat} (h : cPk nb ce into ta goal own 4 = own) : dCome nb ce into ta goal own code = (0, own) := if_pos h
set_option maxHeartbeats 4000000 in
set_option maxRecDepth 100000 in
theorem c_yDeed_true {T : xT} {n : Nat} {sh : Nat → Nat × Nat} {I : xI} {R : xR} {L : xL} {P : xPost} {b nb ta te lo : Nat} {ki ve ce sto hu : Nat → Nat} {LN : xLN} {bi : Nat} (h : SC sh R I b nb ki ve ce sto hu ta te lo LN) (hb : bi < nb) (ha : I b 14 = nI (ce bi)) (K : ∀ d a, yDeed nb ce (ki bi) (ve bi) (sto bi) ta (ce bi) true = (d, a) → P (n, sh, 0, 0) (up2 I b 14 (nI a)) R L (some (.int (nI d)))) : XM T zX6_yieldingDeed 3 [.ref b, .int (nI bi), .int 1] n sh I R L P := by
  obtain ⟨hS, hn6, hki, hve, hc, hsto, hhu, hbd, hta, ht, hte, hte2, hlo, hlo2, hln⟩ := h
  have hS0 := hS
  obtain ⟨s0, sl, rl, f0, f1, f2, f3, f4, f5, f6, f7, w0, w1, w2, w3, w4, w5, w6, w7⟩ := hS
  have hce : ∀ i, i < nb → ce i < 36 := fun i hi => (hbd i hi).2.2.1
  obtain ⟨hk7, hv10, hc36, hs36, hu10⟩ := hbd bi hb
  have hfl := far_lt hc36 hs36
  refine x_aload_n (pc := 0) dX6_yieldingDeed_0 rfl rfl ?_
  refine x_getr (pc := 1) dX6_yieldingDeed_1 kf_RX6_23 s0 rfl f2 ?_
  refine x_iload_n (pc := 4) dX6_yieldingDeed_4 rfl rfl ?_
  refine x_callV (pc := 5) (As := [.int _]) dX6_yieldingDeed_5 km_X5_at kv_X5_at kl_RX6_89 w2.1 rfl rfl (by decide) ⟨Nat.le_refl _, Nat.le_refl _⟩ rfl (Nat.le_of_ble_eq_true rfl) (Nat.le_of_ble_eq_true rfl) (c_at w2 (⟨rfl, rfl, ?_⟩))
  rw [hc.1, rAt_in hb hn6 (by omega), hc.2 _ hb]
  refine x_istore_n (pc := 8) (lv' := [(0, .ref b), (1, .int (nI bi)), (2, .int 1), (3, .int (nI (ce bi)))]) dX6_yieldingDeed_8 rfl (by decide) rfl ?_
  refine x_iload_n (pc := 9) dX6_yieldingDeed_9 rfl rfl ?_
  refine x_if_eq_f (pc := 10) (tgt := 23) dX6_yieldingDeed_10 (by decide) (by decide) ?_
  refine x_aload_n (pc := 13) dX6_yieldingDeed_13 rfl rfl ?_
  refine x_iload_n (pc := 14) dX6_yieldingDeed_14 rfl rfl ?_
  refine x_callV (pc := 15) (As := [.int _]) dX6_yieldingDeed_15 km_X6_yielded kv_X6_yielded kl_RX6_170 s0 rfl rfl (by decide) ⟨Nat.le_refl _, Nat.le_refl _⟩ rfl (Nat.le_of_ble_eq_true rfl) (Nat.le_of_ble_eq_true rfl) (c_yielded hS0 hc hn6 hce hc36 hta ht ha (fun hy => ⟨rfl, rfl, ?_⟩) (fun hny => ⟨rfl, rfl, ?_⟩))
  · skip
    refine x_if_eq_f (pc := 18) (tgt := 23) dX6_yieldingDeed_18 (by decide) (by decide) ?_
    refine x_iconst (pc := 21) (v := 1) dX6_yieldingDeed_21 (by decide) ?_
    refine x_ireturn (pc := 22) dX6_yieldingDeed_22 ⟨_, rfl, rfl⟩ ⟨Nat.le_refl _, Nat.le_refl _⟩ ?_
    exact K 1 _ (by unfold yDeed; simp [hy])
  · skip
    refine x_if_eq_t (pc := 18) (tgt := 23) dX6_yieldingDeed_18 (by decide) (by decide) ?_
    refine x_iload_n (pc := 23) dX6_yieldingDeed_23 rfl rfl ?_
    refine x_if_eq_f (pc := 24) (tgt := 58) dX6_yieldingDeed_24 (by decide) (by decide) ?_
    refine x_aload_n (pc := 27) dX6_yieldingDeed_27 rfl rfl ?_
    refine x_getr (pc := 28) dX6_yieldingDeed_28 kf_RX6_14 s0 rfl f0 ?_
    refine x_iload_n (pc := 31) dX6_yieldingDeed_31 rfl rfl ?_
    refine x_callV (pc := 32) (As := [.int _]) dX6_yieldingDeed_32 km_X5_at kv_X5_at kl_RX6_89 w0.1 rfl rfl (by decide) ⟨Nat.le_refl _, Nat.le_refl _⟩ rfl (Nat.le_of_ble_eq_true rfl) (Nat.le_of_ble_eq_true rfl) (c_at w0 (⟨rfl, rfl, ?_⟩))
    rw [hki.1, rAt_in hb hn6 (by omega), hki.2 _ hb]
    refine x_iconst (pc := 35) (v := 4) dX6_yieldingDeed_35 (by decide) ?_
    refine x_icmpn_ne (pc := 36) (tgt := 56) (a := (ki bi)) (b := 4) dX6_yieldingDeed_36 (by decide) (by omega) (by decide) (fun c36 => ?_) (fun c36 => ?_)
    · skip
      refine x_iconst (pc := 56) (v := 0) dX6_yieldingDeed_56 (by decide) ?_
      refine x_ireturn (pc := 57) dX6_yieldingDeed_57 ⟨_, rfl, rfl⟩ ⟨Nat.le_refl _, Nat.le_refl _⟩ ?_
      exact xvI (K 0 _ (by unfold yDeed; simp [hny, c36])) (up2_self ha)
    · skip
      refine x_aload_n (pc := 39) dX6_yieldingDeed_39 rfl rfl ?_
      refine x_aload_n (pc := 40) dX6_yieldingDeed_40 rfl rfl ?_
      refine x_get (pc := 41) dX6_yieldingDeed_41 kf_RX6_41 s0 rfl ?_
      rw [hta]
      refine x_iload_n (pc := 44) dX6_yieldingDeed_44 rfl rfl ?_
      refine x_iconst (pc := 45) (v := 1) dX6_yieldingDeed_45 (by decide) ?_
      refine x_callV (pc := 46) (As := [.int _, .int _, .int _]) dX6_yieldingDeed_46 km_X6_cameTo kv_X6_cameTo kl_RX6_166 s0 rfl rfl (by decide) ⟨Nat.le_refl _, Nat.le_refl _⟩ rfl (Nat.le_of_ble_eq_true rfl) (Nat.le_of_ble_eq_true rfl) (c_cameTo_in hS0 hc hn6 hce hc36 hta ht ha ht (fun hq => ⟨rfl, rfl, ?_⟩) (fun hnq => ⟨rfl, rfl, ?_⟩))
      · skip
        refine x_if_eq_f (pc := 49) (tgt := 56) dX6_yieldingDeed_49 (by decide) (by decide) ?_
        refine x_iconst (pc := 52) (v := 2) dX6_yieldingDeed_52 (by decide) ?_
        refine x_goto (pc := 53) (tgt := 57) dX6_yieldingDeed_53 (by decide) ?_
        refine x_ireturn (pc := 57) dX6_yieldingDeed_57 ⟨_, rfl, rfl⟩ ⟨Nat.le_refl _, Nat.le_refl _⟩ ?_
        exact K 2 _ (by unfold yDeed; simp [hny, c36, dCome_y hq])
      · skip
        refine x_if_eq_t (pc := 49) (tgt := 56) dX6_yieldingDeed_49 (by decide) (by decide) ?_
        refine x_iconst (pc := 56) (v := 0) dX6_yieldingDeed_56 (by decide) ?_
        refine x_ireturn (pc := 57) dX6_yieldingDeed_57 ⟨_, rfl, rfl⟩ ⟨Nat.le_refl _, Nat.le_refl _⟩ ?_
        exact xvI (K 0 _ (by unfold yDeed; simp [hny, c36, dCome_n hnq])) (up2_self ha)

set_option maxHeartbeats 4000000 in
set_option maxRecDepth 100000 in
theorem c_yDeed_false {T : xT} {n : Nat} {sh : Nat → Nat × Nat} {I : xI} {R : xR} {L : xL} {P : xPost} {b nb ta te lo : Nat} {ki ve ce sto hu : Nat → Nat} {LN : xLN} {bi : Nat} (h : SC sh R I b nb ki ve ce sto hu ta te lo LN) (hb : bi < nb) (ha : I b 14 = nI (ce bi)) (K : ∀ d a, yDeed nb ce (ki bi) (ve bi) (sto bi) ta (ce bi) false = (d, a) → P (n, sh, 0, 0) (up2 I b 14 (nI a)) R L (some (.int (nI d)))) : XM T zX6_yieldingDeed 3 [.ref b, .int (nI bi), .int 0] n sh I R L P := by
  obtain ⟨hS, hn6, hki, hve, hc, hsto, hhu, hbd, hta, ht, hte, hte2, hlo, hlo2, hln⟩ := h
  have hS0 := hS
  obtain ⟨s0, sl, rl, f0, f1, f2, f3, f4, f5, f6, f7, w0, w1, w2, w3, w4, w5, w6, w7⟩ := hS
  have hce : ∀ i, i < nb → ce i < 36 := fun i hi => (hbd i hi).2.2.1
  obtain ⟨hk7, hv10, hc36, hs36, hu10⟩ := hbd bi hb
  have hfl := far_lt hc36 hs36
  refine x_aload_n (pc := 0) dX6_yieldingDeed_0 rfl rfl ?_
  refine x_getr (pc := 1) dX6_yieldingDeed_1 kf_RX6_23 s0 rfl f2 ?_
  refine x_iload_n (pc := 4) dX6_yieldingDeed_4 rfl rfl ?_
  refine x_callV (pc := 5) (As := [.int _]) dX6_yieldingDeed_5 km_X5_at kv_X5_at kl_RX6_89 w2.1 rfl rfl (by decide) ⟨Nat.le_refl _, Nat.le_refl _⟩ rfl (Nat.le_of_ble_eq_true rfl) (Nat.le_of_ble_eq_true rfl) (c_at w2 (⟨rfl, rfl, ?_⟩))
  rw [hc.1, rAt_in hb hn6 (by omega), hc.2 _ hb]
  refine x_istore_n (pc := 8) (lv' := [(0, .ref b), (1, .int (nI bi)), (2, .int 0), (3, .int (nI (ce bi)))]) dX6_yieldingDeed_8 rfl (by decide) rfl ?_
  refine x_iload_n (pc := 9) dX6_yieldingDeed_9 rfl rfl ?_
  refine x_if_eq_t (pc := 10) (tgt := 23) dX6_yieldingDeed_10 (by decide) (by decide) ?_
  refine x_iload_n (pc := 23) dX6_yieldingDeed_23 rfl rfl ?_
  refine x_if_eq_t (pc := 24) (tgt := 58) dX6_yieldingDeed_24 (by decide) (by decide) ?_
  refine x_aload_n (pc := 58) dX6_yieldingDeed_58 rfl rfl ?_
  refine x_getr (pc := 59) dX6_yieldingDeed_59 kf_RX6_14 s0 rfl f0 ?_
  refine x_iload_n (pc := 62) dX6_yieldingDeed_62 rfl rfl ?_
  refine x_callV (pc := 63) (As := [.int _]) dX6_yieldingDeed_63 km_X5_at kv_X5_at kl_RX6_89 w0.1 rfl rfl (by decide) ⟨Nat.le_refl _, Nat.le_refl _⟩ rfl (Nat.le_of_ble_eq_true rfl) (Nat.le_of_ble_eq_true rfl) (c_at w0 (⟨rfl, rfl, ?_⟩))
  rw [hki.1, rAt_in hb hn6 (by omega), hki.2 _ hb]
  refine x_iconst (pc := 66) (v := 5) dX6_yieldingDeed_66 (by decide) ?_
  refine x_icmpn_ne (pc := 67) (tgt := 97) (a := (ki bi)) (b := 5) dX6_yieldingDeed_67 (by decide) (by omega) (by decide) (fun c67 => ?_) (fun c67 => ?_)
  · skip
    refine x_iconst (pc := 97) (v := 0) dX6_yieldingDeed_97 (by decide) ?_
    refine x_istore (pc := 98) (lv' := [(0, .ref b), (1, .int (nI bi)), (2, .int 0), (3, .int (nI (ce bi))), (4, .int 0)]) dX6_yieldingDeed_98 (by decide) rfl ?_
    refine x_iload (pc := 100) dX6_yieldingDeed_100 rfl ?_
    refine x_if_eq_t (pc := 102) (tgt := 126) dX6_yieldingDeed_102 (by decide) (by decide) ?_
    refine x_iconst (pc := 126) (v := 0) dX6_yieldingDeed_126 (by decide) ?_
    refine x_ireturn (pc := 127) dX6_yieldingDeed_127 ⟨_, rfl, rfl⟩ ⟨Nat.le_refl _, Nat.le_refl _⟩ ?_
    exact xvI (K 0 _ (by unfold yDeed; simp [c67])) (up2_self ha)
  · skip
    refine x_iload_n (pc := 70) dX6_yieldingDeed_70 rfl rfl ?_
    refine x_aload_n (pc := 71) dX6_yieldingDeed_71 rfl rfl ?_
    refine x_getr (pc := 72) dX6_yieldingDeed_72 kf_RX6_26 s0 rfl f3 ?_
    refine x_iload_n (pc := 75) dX6_yieldingDeed_75 rfl rfl ?_
    refine x_callV (pc := 76) (As := [.int _]) dX6_yieldingDeed_76 km_X5_at kv_X5_at kl_RX6_89 w3.1 rfl rfl (by decide) ⟨Nat.le_refl _, Nat.le_refl _⟩ rfl (Nat.le_of_ble_eq_true rfl) (Nat.le_of_ble_eq_true rfl) (c_at w3 (⟨rfl, rfl, ?_⟩))
    rw [hsto.1, rAt_in hb hn6 (by omega), hsto.2 _ hb]
    refine x_callSN (pc := 79) (As := [.int _, .int _]) dX6_yieldingDeed_79 km_X9_farOf ks_X9_farOf kn_RX6_150 rfl (by decide) ⟨Nat.le_refl _, Nat.le_refl _⟩ rfl (Nat.le_of_ble_eq_true rfl) (Nat.le_of_ble_eq_true rfl) (c_farOf hc36 hs36 (⟨rfl, rfl, ?_⟩))
    refine x_aload_n (pc := 82) dX6_yieldingDeed_82 rfl rfl ?_
    refine x_getr (pc := 83) dX6_yieldingDeed_83 kf_RX6_20 s0 rfl f1 ?_
    refine x_iload_n (pc := 86) dX6_yieldingDeed_86 rfl rfl ?_
    refine x_callV (pc := 87) (As := [.int _]) dX6_yieldingDeed_87 km_X5_at kv_X5_at kl_RX6_89 w1.1 rfl rfl (by decide) ⟨Nat.le_refl _, Nat.le_refl _⟩ rfl (Nat.le_of_ble_eq_true rfl) (Nat.le_of_ble_eq_true rfl) (c_at w1 (⟨rfl, rfl, ?_⟩))
    rw [hve.1, rAt_in hb hn6 (by omega), hve.2 _ hb]
    refine x_icmpn_gt (pc := 90) (tgt := 97) (a := (far (ce bi) (sto bi))) (b := (ve bi)) dX6_yieldingDeed_90 (by decide) (by omega) (by omega) (fun c90 => ?_) (fun c90 => ?_)
    · skip
      refine x_iconst (pc := 97) (v := 0) dX6_yieldingDeed_97 (by decide) ?_
      refine x_istore (pc := 98) (lv' := [(0, .ref b), (1, .int (nI bi)), (2, .int 0), (3, .int (nI (ce bi))), (4, .int 0)]) dX6_yieldingDeed_98 (by decide) rfl ?_
      refine x_iload (pc := 100) dX6_yieldingDeed_100 rfl ?_
      refine x_if_eq_t (pc := 102) (tgt := 126) dX6_yieldingDeed_102 (by decide) (by decide) ?_
      refine x_iconst (pc := 126) (v := 0) dX6_yieldingDeed_126 (by decide) ?_
      refine x_ireturn (pc := 127) dX6_yieldingDeed_127 ⟨_, rfl, rfl⟩ ⟨Nat.le_refl _, Nat.le_refl _⟩ ?_
      exact xvI (K 0 _ (by unfold yDeed; simp [c67, Nat.not_le.mpr c90])) (up2_self ha)
    · skip
      refine x_iconst (pc := 93) (v := 1) dX6_yieldingDeed_93 (by decide) ?_
      refine x_goto (pc := 94) (tgt := 98) dX6_yieldingDeed_94 (by decide) ?_
      refine x_istore (pc := 98) (lv' := [(0, .ref b), (1, .int (nI bi)), (2, .int 0), (3, .int (nI (ce bi))), (4, .int 1)]) dX6_yieldingDeed_98 (by decide) rfl ?_
      refine x_iload (pc := 100) dX6_yieldingDeed_100 rfl ?_
      refine x_if_eq_f (pc := 102) (tgt := 126) dX6_yieldingDeed_102 (by decide) (by decide) ?_
      refine x_aload_n (pc := 105) dX6_yieldingDeed_105 rfl rfl ?_
      refine x_aload_n (pc := 106) dX6_yieldingDeed_106 rfl rfl ?_
      refine x_getr (pc := 107) dX6_yieldingDeed_107 kf_RX6_26 s0 rfl f3 ?_
      refine x_iload_n (pc := 110) dX6_yieldingDeed_110 rfl rfl ?_
      refine x_callV (pc := 111) (As := [.int _]) dX6_yieldingDeed_111 km_X5_at kv_X5_at kl_RX6_89 w3.1 rfl rfl (by decide) ⟨Nat.le_refl _, Nat.le_refl _⟩ rfl (Nat.le_of_ble_eq_true rfl) (Nat.le_of_ble_eq_true rfl) (c_at w3 (⟨rfl, rfl, ?_⟩))
      rw [hsto.1, rAt_in hb hn6 (by omega), hsto.2 _ hb]
      refine x_iload_n (pc := 114) dX6_yieldingDeed_114 rfl rfl ?_
      refine x_iconst (pc := 115) (v := 0) dX6_yieldingDeed_115 (by decide) ?_
      refine x_callV (pc := 116) (As := [.int _, .int _, .int _]) dX6_yieldingDeed_116 km_X6_cameTo kv_X6_cameTo kl_RX6_166 s0 rfl rfl (by decide) ⟨Nat.le_refl _, Nat.le_refl _⟩ rfl (Nat.le_of_ble_eq_true rfl) (Nat.le_of_ble_eq_true rfl) (c_cameTo_out hS0 hc hn6 hce hc36 hta ht ha hs36 (fun hq => ⟨rfl, rfl, ?_⟩) (fun hnq => ⟨rfl, rfl, ?_⟩))
      · skip
        refine x_if_eq_f (pc := 119) (tgt := 126) dX6_yieldingDeed_119 (by decide) (by decide) ?_
        refine x_iconst (pc := 122) (v := 3) dX6_yieldingDeed_122 (by decide) ?_
        refine x_goto (pc := 123) (tgt := 127) dX6_yieldingDeed_123 (by decide) ?_
        refine x_ireturn (pc := 127) dX6_yieldingDeed_127 ⟨_, rfl, rfl⟩ ⟨Nat.le_refl _, Nat.le_refl _⟩ ?_
        exact K 3 _ (by unfold yDeed; simp [c67, c90, dCome_y hq])
      · skip
        refine x_if_eq_t (pc := 119) (tgt := 126) dX6_yieldingDeed_119 (by decide) (by decide) ?_
        refine x_iconst (pc := 126) (v := 0) dX6_yieldingDeed_126 (by decide) ?_
        refine x_ireturn (pc := 127) dX6_yieldingDeed_127 ⟨_, rfl, rfl⟩ ⟨Nat.le_refl _, Nat.le_refl _⟩ ?_
        exact xvI (K 0 _ (by unfold yDeed; simp [c67, c90, dCome_n hnq])) (up2_self ha)

set_option maxHeartbeats 4000000 in
set_option maxRecDepth 100000 in
theorem c_deedOf {T : xT} {n : Nat} {sh : Nat → Nat × Nat} {I : xI} {R : xR} {L : xL} {P : xPost} {b nb ta te lo : Nat} {ki ve ce sto hu : Nat → Nat} {LN : xLN} {bi : Nat} (h : SC sh R I b nb ki ve ce sto hu ta te lo LN) (hb : bi < nb) (K : ∀ I2 : xI, (∀ a, a ≠ b + 17 → a ≠ b → I2 a = I a) → (∀ k, k ≠ 14 → I2 b k = I b k) → I2 b 14 = nI (deedN nb ki ve ce sto hu ta te lo LN bi).2 → P (n, sh, 0, 0) I2 R L (some (.int (nI (deedN nb ki ve ce sto hu ta te lo LN bi).1)))) : XM T zX6_deedOf 4 [.ref b, .int (nI bi)] n sh I R L P := by
  have hS0 := h.1
  have hS := h.1
  obtain ⟨s0, sl, rl, f0, f1, f2, f3, f4, f5, f6, f7, w0, w1, w2, w3, w4, w5, w6, w7⟩ := hS
  refine x_aload_n (pc := 0) dX6_deedOf_0 rfl rfl ?_
  refine x_iload_n (pc := 1) dX6_deedOf_1 rfl rfl ?_
  refine x_callV (pc := 2) (As := [.int _]) dX6_deedOf_2 km_X6_lookAt kv_X6_lookAt kl_RX6_156 s0 rfl rfl (by decide) ⟨Nat.le_refl _, Nat.le_refl _⟩ rfl (Nat.le_of_ble_eq_true rfl) (Nat.le_of_ble_eq_true rfl) (c_lookAt h hb (fun I2 hI2 y2 c2 => ⟨rfl, rfl, ?_⟩))
  have h2 := h.keep (fun a p1 p2 => hI2 a p1) (fun k hk => by rw [hI2 b (by omega)])
  obtain ⟨hS, hn6, hki, hve, hc, hsto, hhu, hbd, hta, ht, hte, hte2, hlo, hlo2, hln⟩ := id h2
  have hS0 := hS
  have hce : ∀ i, i < nb → ce i < 36 := fun i hi => (hbd i hi).2.2.1
  obtain ⟨hk7, hv10, hc36, hs36, hu10⟩ := hbd bi hb
  have hfl := far_lt hc36 ht
  have hyl : ylOf (lnAt LN nb ce hu te bi) lo < 200 := by unfold ylOf; have := mn_le (a := (lnAt LN nb ce hu te bi).1) (b := 9); omega
  have hcl : clOf (lnAt LN nb ce hu te bi) (ki bi) (ve bi) lo < 200 := by unfold clOf; have h1 : cm (mn (lnAt LN nb ce hu te bi).1 9) (lnAt LN nb ce hu te bi).2 ≤ 9 := (by unfold cm; split; omega; have := mn_le (a := (lnAt LN nb ce hu te bi).1) (b := 9); have := mn_le (a := (lnAt LN nb ce hu te bi).2) (b := mn (lnAt LN nb ce hu te bi).1 9 - 1); omega); split <;> omega
  refine x_aload_n (pc := 5) dX6_deedOf_5 rfl rfl ?_
  refine x_getr (pc := 6) dX6_deedOf_6 kf_RX6_23 s0 rfl f2 ?_
  refine x_iload_n (pc := 9) dX6_deedOf_9 rfl rfl ?_
  refine x_callV (pc := 10) (As := [.int _]) dX6_deedOf_10 km_X5_at kv_X5_at kl_RX6_89 w2.1 rfl rfl (by decide) ⟨Nat.le_refl _, Nat.le_refl _⟩ rfl (Nat.le_of_ble_eq_true rfl) (Nat.le_of_ble_eq_true rfl) (c_at w2 (⟨rfl, rfl, ?_⟩))
  rw [hc.1, rAt_in hb hn6 (by omega), hc.2 _ hb]
  refine x_istore_n (pc := 13) (lv' := [(0, .ref b), (1, .int (nI bi)), (2, .int (nI (ce bi)))]) dX6_deedOf_13 rfl (by decide) rfl ?_
  refine x_aload_n (pc := 14) dX6_deedOf_14 rfl rfl ?_
  refine x_getr (pc := 15) dX6_deedOf_15 kf_RX6_14 s0 rfl f0 ?_
  refine x_iload_n (pc := 18) dX6_deedOf_18 rfl rfl ?_
  refine x_callV (pc := 19) (As := [.int _]) dX6_deedOf_19 km_X5_at kv_X5_at kl_RX6_89 w0.1 rfl rfl (by decide) ⟨Nat.le_refl _, Nat.le_refl _⟩ rfl (Nat.le_of_ble_eq_true rfl) (Nat.le_of_ble_eq_true rfl) (c_at w0 (⟨rfl, rfl, ?_⟩))
  rw [hki.1, rAt_in hb hn6 (by omega), hki.2 _ hb]
  refine x_istore_n (pc := 22) (lv' := [(0, .ref b), (1, .int (nI bi)), (2, .int (nI (ce bi))), (3, .int (nI (ki bi)))]) dX6_deedOf_22 rfl (by decide) rfl ?_
  refine x_iload_n (pc := 23) dX6_deedOf_23 rfl rfl ?_
  refine x_aload_n (pc := 24) dX6_deedOf_24 rfl rfl ?_
  refine x_get (pc := 25) dX6_deedOf_25 kf_RX6_41 s0 rfl ?_
  rw [hta]
  refine x_callSN (pc := 28) (As := [.int _, .int _]) dX6_deedOf_28 km_X9_farOf ks_X9_farOf kn_RX6_150 rfl (by decide) ⟨Nat.le_refl _, Nat.le_refl _⟩ rfl (Nat.le_of_ble_eq_true rfl) (Nat.le_of_ble_eq_true rfl) (c_farOf hc36 ht (⟨rfl, rfl, ?_⟩))
  refine x_istore (pc := 31) (lv' := [(0, .ref b), (1, .int (nI bi)), (2, .int (nI (ce bi))), (3, .int (nI (ki bi))), (4, .int (nI (far (ce bi) ta)))]) dX6_deedOf_31 (by decide) rfl ?_
  refine x_aload_n (pc := 33) dX6_deedOf_33 rfl rfl ?_
  refine x_iload_n (pc := 34) dX6_deedOf_34 rfl rfl ?_
  refine x_put (pc := 35) dX6_deedOf_35 kf_RX6_65 s0 rfl (Or.inl kb_6_14) ?_
  generalize hI3 : up2 I2 b 14 (nI (ce bi)) = I3
  have g1 : ∀ a, a ≠ b → I3 a = I2 a := fun a ha => by rw [← hI3]; exact up2_row ha
  have g2 : ∀ k, k ≠ 14 → I3 b k = I2 b k := fun k hk => by rw [← hI3]; exact up2_k hk
  have ha : I3 b 14 = nI (ce bi) := by rw [← hI3]; exact up2_s
  have fin : ∀ d z, deedF nb ce (ki bi) (ve bi) (sto bi) ta te (ylOf (lnAt LN nb ce hu te bi) lo) (clOf (lnAt LN nb ce hu te bi) (ki bi) (ve bi) lo) (ce bi) = (d, z) → P (n, sh, 0, 0) (up2 I3 b 14 (nI z)) R L (some (.int (nI d))) := fun d z e => by
    have h5 := K (up2 I3 b 14 (nI z)) (fun a p1 p2 => (up2_row p2).trans ((g1 a p2).trans (hI2 a p1))) (fun k hk => (up2_k hk).trans ((g2 k hk).trans (by rw [hI2 b (by omega)]))) (by unfold deedN; rw [e]; exact up2_s)
    unfold deedN at h5
    rw [e] at h5
    exact h5
  have fin0 : deedF nb ce (ki bi) (ve bi) (sto bi) ta te (ylOf (lnAt LN nb ce hu te bi) lo) (clOf (lnAt LN nb ce hu te bi) (ki bi) (ve bi) lo) (ce bi) = (0, ce bi) → P (n, sh, 0, 0) I3 R L (some (.int 0)) := fun e => xvI (fin 0 _ e) (up2_self ha)
  have y3 : I3 (b + 17) 5 = nI (ylOf (lnAt LN nb ce hu te bi) lo) := by rw [g1 _ (by omega)]; exact y2
  have c3 : I3 (b + 17) 6 = nI (clOf (lnAt LN nb ce hu te bi) (ki bi) (ve bi) lo) := by rw [g1 _ (by omega)]; exact c2
  have h3 := h2.keep (fun a p1 p2 => g1 a p2) g2
  obtain ⟨hS, hn6, hki, hve, hc, hsto, hhu, hbd, hta, ht, hte, hte2, hlo, hlo2, hln⟩ := id h3
  refine x_iload_n (pc := 38) dX6_deedOf_38 rfl rfl ?_
  refine x_iconst (pc := 39) (v := 3) dX6_deedOf_39 (by decide) ?_
  refine x_icmpn_ne (pc := 40) (tgt := 60) (a := (ki bi)) (b := 3) dX6_deedOf_40 (by decide) (by omega) (by decide) (fun c40 => ?_) (fun c40 => ?_)
  · skip
    refine x_iload_n (pc := 60) dX6_deedOf_60 rfl rfl ?_
    refine x_iconst (pc := 61) (v := 1) dX6_deedOf_61 (by decide) ?_
    refine x_callSN (pc := 62) (As := [.int _, .int _]) dX6_deedOf_62 km_X9_isOneOf ks_X9_isOneOf kn_RX6_146 rfl (by decide) ⟨Nat.le_refl _, Nat.le_refl _⟩ rfl (Nat.le_of_ble_eq_true rfl) (Nat.le_of_ble_eq_true rfl) (c_isOneOf (o := 1) hk7 (by decide) (fun hone => ⟨rfl, rfl, ?_⟩) (fun hnone => ⟨rfl, rfl, ?_⟩))
    · skip
      refine x_if_eq_f (pc := 65) (tgt := 103) dX6_deedOf_65 (by decide) (by decide) ?_
      refine x_aload_n (pc := 68) dX6_deedOf_68 rfl rfl ?_
      refine x_iload_n (pc := 69) dX6_deedOf_69 rfl rfl ?_
      refine x_iload (pc := 70) dX6_deedOf_70 rfl ?_
      refine x_aload_n (pc := 72) dX6_deedOf_72 rfl rfl ?_
      refine x_getr (pc := 73) dX6_deedOf_73 kf_RX6_61 s0 rfl rl ?_
      refine x_get (pc := 76) dX6_deedOf_76 kf_RX6_129 sl rfl ?_
      rw [c3]
      refine x_icmpn_le (pc := 79) (tgt := 94) (a := (far (ce bi) ta)) (b := (clOf (lnAt LN nb ce hu te bi) (ki bi) (ve bi) lo)) dX6_deedOf_79 (by decide) (by omega) (by omega) (fun c79 => ?_) (fun c79 => ?_)
      · skip
        refine x_iconst (pc := 94) (v := 1) dX6_deedOf_94 (by decide) ?_
        refine x_goto (pc := 95) (tgt := 99) dX6_deedOf_95 (by decide) ?_
        refine x_callV (pc := 99) (As := [.int _, .int _]) dX6_deedOf_99 km_X6_yieldingDeed kv_X6_yieldingDeed kl_RX6_162 s0 rfl rfl (by decide) ⟨Nat.le_refl _, Nat.le_refl _⟩ rfl (Nat.le_of_ble_eq_true rfl) (Nat.le_of_ble_eq_true rfl) (c_yDeed_true h3 hb ha (fun d z e => ⟨rfl, rfl, ?_⟩))
        have e9 : deedF nb ce (ki bi) (ve bi) (sto bi) ta te (ylOf (lnAt LN nb ce hu te bi) lo) (clOf (lnAt LN nb ce hu te bi) (ki bi) (ve bi) lo) (ce bi) = (d, z) := by unfold deedF; rw [if_neg (fun hh => c40 hh.1), hone, if_pos rfl, decide_eq_true c79, Bool.true_or]; exact e
        refine x_ireturn (pc := 102) dX6_deedOf_102 ⟨_, rfl, rfl⟩ ⟨Nat.le_refl _, Nat.le_refl _⟩ ?_
        exact fin d z e9
      · skip
        refine x_iload (pc := 82) dX6_deedOf_82 rfl ?_
        refine x_aload_n (pc := 84) dX6_deedOf_84 rfl rfl ?_
        refine x_getr (pc := 85) dX6_deedOf_85 kf_RX6_61 s0 rfl rl ?_
        refine x_get (pc := 88) dX6_deedOf_88 kf_RX6_126 sl rfl ?_
        rw [y3]
        refine x_icmpn_gt (pc := 91) (tgt := 98) (a := (far (ce bi) ta)) (b := (ylOf (lnAt LN nb ce hu te bi) lo)) dX6_deedOf_91 (by decide) (by omega) (by omega) (fun c91 => ?_) (fun c91 => ?_)
        · skip
          refine x_iconst (pc := 98) (v := 0) dX6_deedOf_98 (by decide) ?_
          refine x_callV (pc := 99) (As := [.int _, .int _]) dX6_deedOf_99 km_X6_yieldingDeed kv_X6_yieldingDeed kl_RX6_162 s0 rfl rfl (by decide) ⟨Nat.le_refl _, Nat.le_refl _⟩ rfl (Nat.le_of_ble_eq_true rfl) (Nat.le_of_ble_eq_true rfl) (c_yDeed_false h3 hb ha (fun d z e => ⟨rfl, rfl, ?_⟩))
          have e9 : deedF nb ce (ki bi) (ve bi) (sto bi) ta te (ylOf (lnAt LN nb ce hu te bi) lo) (clOf (lnAt LN nb ce hu te bi) (ki bi) (ve bi) lo) (ce bi) = (d, z) := by unfold deedF; rw [if_neg (fun hh => c40 hh.1), hone, if_pos rfl, decide_eq_false (Nat.not_le.mpr c79), decide_eq_false (Nat.not_le.mpr c91), Bool.or_false]; exact e
          refine x_ireturn (pc := 102) dX6_deedOf_102 ⟨_, rfl, rfl⟩ ⟨Nat.le_refl _, Nat.le_refl _⟩ ?_
          exact fin d z e9
        · skip
          refine x_iconst (pc := 94) (v := 1) dX6_deedOf_94 (by decide) ?_
          refine x_goto (pc := 95) (tgt := 99) dX6_deedOf_95 (by decide) ?_
          refine x_callV (pc := 99) (As := [.int _, .int _]) dX6_deedOf_99 km_X6_yieldingDeed kv_X6_yieldingDeed kl_RX6_162 s0 rfl rfl (by decide) ⟨Nat.le_refl _, Nat.le_refl _⟩ rfl (Nat.le_of_ble_eq_true rfl) (Nat.le_of_ble_eq_true rfl) (c_yDeed_true h3 hb ha (fun d z e => ⟨rfl, rfl, ?_⟩))
          have e9 : deedF nb ce (ki bi) (ve bi) (sto bi) ta te (ylOf (lnAt LN nb ce hu te bi) lo) (clOf (lnAt LN nb ce hu te bi) (ki bi) (ve bi) lo) (ce bi) = (d, z) := by unfold deedF; rw [if_neg (fun hh => c40 hh.1), hone, if_pos rfl, decide_eq_true c91, Bool.or_true]; exact e
          refine x_ireturn (pc := 102) dX6_deedOf_102 ⟨_, rfl, rfl⟩ ⟨Nat.le_refl _, Nat.le_refl _⟩ ?_
          exact fin d z e9
    · skip
      refine x_if_eq_t (pc := 65) (tgt := 103) dX6_deedOf_65 (by decide) (by decide) ?_
      refine x_iload (pc := 103) dX6_deedOf_103 rfl ?_
      refine x_aload_n (pc := 105) dX6_deedOf_105 rfl rfl ?_
      refine x_getr (pc := 106) dX6_deedOf_106 kf_RX6_61 s0 rfl rl ?_
      refine x_get (pc := 109) dX6_deedOf_109 kf_RX6_129 sl rfl ?_
      rw [c3]
      refine x_icmpn_gt (pc := 112) (tgt := 144) (a := (far (ce bi) ta)) (b := (clOf (lnAt LN nb ce hu te bi) (ki bi) (ve bi) lo)) dX6_deedOf_112 (by decide) (by omega) (by omega) (fun c112 => ?_) (fun c112 => ?_)
      · skip
        refine x_iload (pc := 144) dX6_deedOf_144 rfl ?_
        refine x_aload_n (pc := 146) dX6_deedOf_146 rfl rfl ?_
        refine x_getr (pc := 147) dX6_deedOf_147 kf_RX6_61 s0 rfl rl ?_
        refine x_get (pc := 150) dX6_deedOf_150 kf_RX6_126 sl rfl ?_
        rw [y3]
        refine x_icmpn_gt (pc := 153) (tgt := 168) (a := (far (ce bi) ta)) (b := (ylOf (lnAt LN nb ce hu te bi) lo)) dX6_deedOf_153 (by decide) (by omega) (by omega) (fun c153 => ?_) (fun c153 => ?_)
        · skip
          refine x_iconst (pc := 168) (v := 0) dX6_deedOf_168 (by decide) ?_
          refine x_ireturn (pc := 169) dX6_deedOf_169 ⟨_, rfl, rfl⟩ ⟨Nat.le_refl _, Nat.le_refl _⟩ ?_
          exact fin0 (by unfold deedF; rw [if_neg (fun hh => c40 hh.1)]; rw [hnone]; rw [if_neg (by decide), if_neg (Nat.not_le.mpr c112)]; rw [if_neg (Nat.not_le.mpr c153)])
        · skip
          refine x_aload_n (pc := 156) dX6_deedOf_156 rfl rfl ?_
          refine x_iload_n (pc := 157) dX6_deedOf_157 rfl rfl ?_
          refine x_callV (pc := 158) (As := [.int _]) dX6_deedOf_158 km_X6_yielded kv_X6_yielded kl_RX6_170 s0 rfl rfl (by decide) ⟨Nat.le_refl _, Nat.le_refl _⟩ rfl (Nat.le_of_ble_eq_true rfl) (Nat.le_of_ble_eq_true rfl) (c_yielded hS0 hc hn6 hce hc36 hta ht ha (fun hy => ⟨rfl, rfl, ?_⟩) (fun hny => ⟨rfl, rfl, ?_⟩))
          · skip
            refine x_if_eq_f (pc := 161) (tgt := 168) dX6_deedOf_161 (by decide) (by decide) ?_
            refine x_iconst (pc := 164) (v := 1) dX6_deedOf_164 (by decide) ?_
            refine x_goto (pc := 165) (tgt := 169) dX6_deedOf_165 (by decide) ?_
            refine x_ireturn (pc := 169) dX6_deedOf_169 ⟨_, rfl, rfl⟩ ⟨Nat.le_refl _, Nat.le_refl _⟩ ?_
            exact fin 1 _ (by unfold deedF; rw [if_neg (fun hh => c40 hh.1)]; rw [hnone]; rw [if_neg (by decide), if_neg (Nat.not_le.mpr c112)]; rw [if_pos c153, if_neg hy])
          · skip
            refine x_if_eq_t (pc := 161) (tgt := 168) dX6_deedOf_161 (by decide) (by decide) ?_
            refine x_iconst (pc := 168) (v := 0) dX6_deedOf_168 (by decide) ?_
            refine x_ireturn (pc := 169) dX6_deedOf_169 ⟨_, rfl, rfl⟩ ⟨Nat.le_refl _, Nat.le_refl _⟩ ?_
            exact fin0 (by unfold deedF; rw [if_neg (fun hh => c40 hh.1)]; rw [hnone]; rw [if_neg (by decide), if_neg (Nat.not_le.mpr c112)]; rw [if_pos c153, if_pos hny])
      · skip
        refine x_aload_n (pc := 115) dX6_deedOf_115 rfl rfl ?_
        refine x_aload_n (pc := 116) dX6_deedOf_116 rfl rfl ?_
        refine x_get (pc := 117) dX6_deedOf_117 kf_RX6_41 s0 rfl ?_
        rw [hta]
        refine x_iload_n (pc := 120) dX6_deedOf_120 rfl rfl ?_
        refine x_iload_n (pc := 121) dX6_deedOf_121 rfl rfl ?_
        refine x_bipush (pc := 122) (v := 6) dX6_deedOf_122 (by decide) ?_
        refine x_icmpn_eq (pc := 124) (tgt := 131) (a := (ki bi)) (b := 6) dX6_deedOf_124 (by decide) (by omega) (by decide) (fun c124 => ?_) (fun c124 => ?_)
        · skip
          refine x_iconst (pc := 131) (v := 0) dX6_deedOf_131 (by decide) ?_
          refine x_callV (pc := 132) (As := [.int _, .int _, .int _]) dX6_deedOf_132 km_X6_cameTo kv_X6_cameTo kl_RX6_166 s0 rfl rfl (by decide) ⟨Nat.le_refl _, Nat.le_refl _⟩ rfl (Nat.le_of_ble_eq_true rfl) (Nat.le_of_ble_eq_true rfl) (c_cameTo_out hS0 hc hn6 hce hc36 hta ht ha ht (fun hq => ⟨rfl, rfl, ?_⟩) (fun hnq => ⟨rfl, rfl, ?_⟩))
          · skip
            refine x_if_eq_f (pc := 135) (tgt := 142) dX6_deedOf_135 (by decide) (by decide) ?_
            refine x_iconst (pc := 138) (v := 2) dX6_deedOf_138 (by decide) ?_
            refine x_goto (pc := 139) (tgt := 143) dX6_deedOf_139 (by decide) ?_
            refine x_ireturn (pc := 143) dX6_deedOf_143 ⟨_, rfl, rfl⟩ ⟨Nat.le_refl _, Nat.le_refl _⟩ ?_
            exact fin 2 _ (by unfold deedF; rw [if_neg (fun hh => c40 hh.1)]; rw [hnone]; rw [if_neg (by decide), if_pos c112]; rw [if_pos c124, dCome_y hq])
          · skip
            refine x_if_eq_t (pc := 135) (tgt := 142) dX6_deedOf_135 (by decide) (by decide) ?_
            refine x_iconst (pc := 142) (v := 0) dX6_deedOf_142 (by decide) ?_
            refine x_ireturn (pc := 143) dX6_deedOf_143 ⟨_, rfl, rfl⟩ ⟨Nat.le_refl _, Nat.le_refl _⟩ ?_
            exact fin0 (by unfold deedF; rw [if_neg (fun hh => c40 hh.1)]; rw [hnone]; rw [if_neg (by decide), if_pos c112]; rw [if_pos c124, dCome_n hnq])
        · skip
          refine x_iconst (pc := 127) (v := 1) dX6_deedOf_127 (by decide) ?_
          refine x_goto (pc := 128) (tgt := 132) dX6_deedOf_128 (by decide) ?_
          refine x_callV (pc := 132) (As := [.int _, .int _, .int _]) dX6_deedOf_132 km_X6_cameTo kv_X6_cameTo kl_RX6_166 s0 rfl rfl (by decide) ⟨Nat.le_refl _, Nat.le_refl _⟩ rfl (Nat.le_of_ble_eq_true rfl) (Nat.le_of_ble_eq_true rfl) (c_cameTo_in hS0 hc hn6 hce hc36 hta ht ha ht (fun hq => ⟨rfl, rfl, ?_⟩) (fun hnq => ⟨rfl, rfl, ?_⟩))
          · skip
            refine x_if_eq_f (pc := 135) (tgt := 142) dX6_deedOf_135 (by decide) (by decide) ?_
            refine x_iconst (pc := 138) (v := 2) dX6_deedOf_138 (by decide) ?_
            refine x_goto (pc := 139) (tgt := 143) dX6_deedOf_139 (by decide) ?_
            refine x_ireturn (pc := 143) dX6_deedOf_143 ⟨_, rfl, rfl⟩ ⟨Nat.le_refl _, Nat.le_refl _⟩ ?_
            exact fin 2 _ (by unfold deedF; rw [if_neg (fun hh => c40 hh.1)]; rw [hnone]; rw [if_neg (by decide), if_pos c112]; rw [if_neg c124, dCome_y hq])
          · skip
            refine x_if_eq_t (pc := 135) (tgt := 142) dX6_deedOf_135 (by decide) (by decide) ?_
            refine x_iconst (pc := 142) (v := 0) dX6_deedOf_142 (by decide) ?_
            refine x_ireturn (pc := 143) dX6_deedOf_143 ⟨_, rfl, rfl⟩ ⟨Nat.le_refl _, Nat.le_refl _⟩ ?_
            exact fin0 (by unfold deedF; rw [if_neg (fun hh => c40 hh.1)]; rw [hnone]; rw [if_neg (by decide), if_pos c112]; rw [if_neg c124, dCome_n hnq])
  · skip
    refine x_aload_n (pc := 43) dX6_deedOf_43 rfl rfl ?_
    refine x_aload_n (pc := 44) dX6_deedOf_44 rfl rfl ?_
    refine x_getr (pc := 45) dX6_deedOf_45 kf_RX6_20 s0 rfl f1 ?_
    refine x_iload_n (pc := 48) dX6_deedOf_48 rfl rfl ?_
    refine x_callV (pc := 49) (As := [.int _]) dX6_deedOf_49 km_X5_at kv_X5_at kl_RX6_89 w1.1 rfl rfl (by decide) ⟨Nat.le_refl _, Nat.le_refl _⟩ rfl (Nat.le_of_ble_eq_true rfl) (Nat.le_of_ble_eq_true rfl) (c_at w1 (⟨rfl, rfl, ?_⟩))
    rw [hve.1, rAt_in hb hn6 (by omega), hve.2 _ hb]
    refine x_callV (pc := 52) (As := [.int _]) dX6_deedOf_52 km_X6_refuses kv_X6_refuses kl_RX6_159 s0 rfl rfl (by decide) ⟨Nat.le_refl _, Nat.le_refl _⟩ rfl (Nat.le_of_ble_eq_true rfl) (Nat.le_of_ble_eq_true rfl) (c_refuses hS0 hte (by omega) (by omega) (fun hr => ⟨rfl, rfl, ?_⟩) (fun hnr => ⟨rfl, rfl, ?_⟩))
    · skip
      refine x_if_eq_f (pc := 55) (tgt := 60) dX6_deedOf_55 (by decide) (by decide) ?_
      refine x_iconst (pc := 58) (v := 0) dX6_deedOf_58 (by decide) ?_
      refine x_ireturn (pc := 59) dX6_deedOf_59 ⟨_, rfl, rfl⟩ ⟨Nat.le_refl _, Nat.le_refl _⟩ ?_
      exact fin0 (by unfold deedF; rw [if_pos ⟨c40, hr⟩])
    · skip
      refine x_if_eq_t (pc := 55) (tgt := 60) dX6_deedOf_55 (by decide) (by decide) ?_
      refine x_iload_n (pc := 60) dX6_deedOf_60 rfl rfl ?_
      refine x_iconst (pc := 61) (v := 1) dX6_deedOf_61 (by decide) ?_
      refine x_callSN (pc := 62) (As := [.int _, .int _]) dX6_deedOf_62 km_X9_isOneOf ks_X9_isOneOf kn_RX6_146 rfl (by decide) ⟨Nat.le_refl _, Nat.le_refl _⟩ rfl (Nat.le_of_ble_eq_true rfl) (Nat.le_of_ble_eq_true rfl) (c_isOneOf (o := 1) hk7 (by decide) (fun hone => ⟨rfl, rfl, ?_⟩) (fun hnone => ⟨rfl, rfl, ?_⟩))
      · skip
        refine x_if_eq_f (pc := 65) (tgt := 103) dX6_deedOf_65 (by decide) (by decide) ?_
        refine x_aload_n (pc := 68) dX6_deedOf_68 rfl rfl ?_
        refine x_iload_n (pc := 69) dX6_deedOf_69 rfl rfl ?_
        refine x_iload (pc := 70) dX6_deedOf_70 rfl ?_
        refine x_aload_n (pc := 72) dX6_deedOf_72 rfl rfl ?_
        refine x_getr (pc := 73) dX6_deedOf_73 kf_RX6_61 s0 rfl rl ?_
        refine x_get (pc := 76) dX6_deedOf_76 kf_RX6_129 sl rfl ?_
        rw [c3]
        refine x_icmpn_le (pc := 79) (tgt := 94) (a := (far (ce bi) ta)) (b := (clOf (lnAt LN nb ce hu te bi) (ki bi) (ve bi) lo)) dX6_deedOf_79 (by decide) (by omega) (by omega) (fun c79 => ?_) (fun c79 => ?_)
        · skip
          refine x_iconst (pc := 94) (v := 1) dX6_deedOf_94 (by decide) ?_
          refine x_goto (pc := 95) (tgt := 99) dX6_deedOf_95 (by decide) ?_
          refine x_callV (pc := 99) (As := [.int _, .int _]) dX6_deedOf_99 km_X6_yieldingDeed kv_X6_yieldingDeed kl_RX6_162 s0 rfl rfl (by decide) ⟨Nat.le_refl _, Nat.le_refl _⟩ rfl (Nat.le_of_ble_eq_true rfl) (Nat.le_of_ble_eq_true rfl) (c_yDeed_true h3 hb ha (fun d z e => ⟨rfl, rfl, ?_⟩))
          have e9 : deedF nb ce (ki bi) (ve bi) (sto bi) ta te (ylOf (lnAt LN nb ce hu te bi) lo) (clOf (lnAt LN nb ce hu te bi) (ki bi) (ve bi) lo) (ce bi) = (d, z) := by unfold deedF; rw [if_neg (fun hh => hnr hh.2), hone, if_pos rfl, decide_eq_true c79, Bool.true_or]; exact e
          refine x_ireturn (pc := 102) dX6_deedOf_102 ⟨_, rfl, rfl⟩ ⟨Nat.le_refl _, Nat.le_refl _⟩ ?_
          exact fin d z e9
        · skip
          refine x_iload (pc := 82) dX6_deedOf_82 rfl ?_
          refine x_aload_n (pc := 84) dX6_deedOf_84 rfl rfl ?_
          refine x_getr (pc := 85) dX6_deedOf_85 kf_RX6_61 s0 rfl rl ?_
          refine x_get (pc := 88) dX6_deedOf_88 kf_RX6_126 sl rfl ?_
          rw [y3]
          refine x_icmpn_gt (pc := 91) (tgt := 98) (a := (far (ce bi) ta)) (b := (ylOf (lnAt LN nb ce hu te bi) lo)) dX6_deedOf_91 (by decide) (by omega) (by omega) (fun c91 => ?_) (fun c91 => ?_)
          · skip
            refine x_iconst (pc := 98) (v := 0) dX6_deedOf_98 (by decide) ?_
            refine x_callV (pc := 99) (As := [.int _, .int _]) dX6_deedOf_99 km_X6_yieldingDeed kv_X6_yieldingDeed kl_RX6_162 s0 rfl rfl (by decide) ⟨Nat.le_refl _, Nat.le_refl _⟩ rfl (Nat.le_of_ble_eq_true rfl) (Nat.le_of_ble_eq_true rfl) (c_yDeed_false h3 hb ha (fun d z e => ⟨rfl, rfl, ?_⟩))
            have e9 : deedF nb ce (ki bi) (ve bi) (sto bi) ta te (ylOf (lnAt LN nb ce hu te bi) lo) (clOf (lnAt LN nb ce hu te bi) (ki bi) (ve bi) lo) (ce bi) = (d, z) := by unfold deedF; rw [if_neg (fun hh => hnr hh.2), hone, if_pos rfl, decide_eq_false (Nat.not_le.mpr c79), decide_eq_false (Nat.not_le.mpr c91), Bool.or_false]; exact e
            refine x_ireturn (pc := 102) dX6_deedOf_102 ⟨_, rfl, rfl⟩ ⟨Nat.le_refl _, Nat.le_refl _⟩ ?_
            exact fin d z e9
          · skip
            refine x_iconst (pc := 94) (v := 1) dX6_deedOf_94 (by decide) ?_
            refine x_goto (pc := 95) (tgt := 99) dX6_deedOf_95 (by decide) ?_
            refine x_callV (pc := 99) (As := [.int _, .int _]) dX6_deedOf_99 km_X6_yieldingDeed kv_X6_yieldingDeed kl_RX6_162 s0 rfl rfl (by decide) ⟨Nat.le_refl _, Nat.le_refl _⟩ rfl (Nat.le_of_ble_eq_true rfl) (Nat.le_of_ble_eq_true rfl) (c_yDeed_true h3 hb ha (fun d z e => ⟨rfl, rfl, ?_⟩))
            have e9 : deedF nb ce (ki bi) (ve bi) (sto bi) ta te (ylOf (lnAt LN nb ce hu te bi) lo) (clOf (lnAt LN nb ce hu te bi) (ki bi) (ve bi) lo) (ce bi) = (d, z) := by unfold deedF; rw [if_neg (fun hh => hnr hh.2), hone, if_pos rfl, decide_eq_true c91, Bool.or_true]; exact e
            refine x_ireturn (pc := 102) dX6_deedOf_102 ⟨_, rfl, rfl⟩ ⟨Nat.le_refl _, Nat.le_refl _⟩ ?_
            exact fin d z e9
      · skip
        refine x_if_eq_t (pc := 65) (tgt := 103) dX6_deedOf_65 (by decide) (by decide) ?_
        refine x_iload (pc := 103) dX6_deedOf_103 rfl ?_
        refine x_aload_n (pc := 105) dX6_deedOf_105 rfl rfl ?_
        refine x_getr (pc := 106) dX6_deedOf_106 kf_RX6_61 s0 rfl rl ?_
        refine x_get (pc := 109) dX6_deedOf_109 kf_RX6_129 sl rfl ?_
        rw [c3]
        refine x_icmpn_gt (pc := 112) (tgt := 144) (a := (far (ce bi) ta)) (b := (clOf (lnAt LN nb ce hu te bi) (ki bi) (ve bi) lo)) dX6_deedOf_112 (by decide) (by omega) (by omega) (fun c112 => ?_) (fun c112 => ?_)
        · skip
          refine x_iload (pc := 144) dX6_deedOf_144 rfl ?_
          refine x_aload_n (pc := 146) dX6_deedOf_146 rfl rfl ?_
          refine x_getr (pc := 147) dX6_deedOf_147 kf_RX6_61 s0 rfl rl ?_
          refine x_get (pc := 150) dX6_deedOf_150 kf_RX6_126 sl rfl ?_
          rw [y3]
          refine x_icmpn_gt (pc := 153) (tgt := 168) (a := (far (ce bi) ta)) (b := (ylOf (lnAt LN nb ce hu te bi) lo)) dX6_deedOf_153 (by decide) (by omega) (by omega) (fun c153 => ?_) (fun c153 => ?_)
          · skip
            refine x_iconst (pc := 168) (v := 0) dX6_deedOf_168 (by decide) ?_
            refine x_ireturn (pc := 169) dX6_deedOf_169 ⟨_, rfl, rfl⟩ ⟨Nat.le_refl _, Nat.le_refl _⟩ ?_
            exact fin0 (by unfold deedF; rw [if_neg (fun hh => hnr hh.2)]; rw [hnone]; rw [if_neg (by decide), if_neg (Nat.not_le.mpr c112)]; rw [if_neg (Nat.not_le.mpr c153)])
          · skip
            refine x_aload_n (pc := 156) dX6_deedOf_156 rfl rfl ?_
            refine x_iload_n (pc := 157) dX6_deedOf_157 rfl rfl ?_
            refine x_callV (pc := 158) (As := [.int _]) dX6_deedOf_158 km_X6_yielded kv_X6_yielded kl_RX6_170 s0 rfl rfl (by decide) ⟨Nat.le_refl _, Nat.le_refl _⟩ rfl (Nat.le_of_ble_eq_true rfl) (Nat.le_of_ble_eq_true rfl) (c_yielded hS0 hc hn6 hce hc36 hta ht ha (fun hy => ⟨rfl, rfl, ?_⟩) (fun hny => ⟨rfl, rfl, ?_⟩))
            · skip
              refine x_if_eq_f (pc := 161) (tgt := 168) dX6_deedOf_161 (by decide) (by decide) ?_
              refine x_iconst (pc := 164) (v := 1) dX6_deedOf_164 (by decide) ?_
              refine x_goto (pc := 165) (tgt := 169) dX6_deedOf_165 (by decide) ?_
              refine x_ireturn (pc := 169) dX6_deedOf_169 ⟨_, rfl, rfl⟩ ⟨Nat.le_refl _, Nat.le_refl _⟩ ?_
              exact fin 1 _ (by unfold deedF; rw [if_neg (fun hh => hnr hh.2)]; rw [hnone]; rw [if_neg (by decide), if_neg (Nat.not_le.mpr c112)]; rw [if_pos c153, if_neg hy])
            · skip
              refine x_if_eq_t (pc := 161) (tgt := 168) dX6_deedOf_161 (by decide) (by decide) ?_
              refine x_iconst (pc := 168) (v := 0) dX6_deedOf_168 (by decide) ?_
              refine x_ireturn (pc := 169) dX6_deedOf_169 ⟨_, rfl, rfl⟩ ⟨Nat.le_refl _, Nat.le_refl _⟩ ?_
              exact fin0 (by unfold deedF; rw [if_neg (fun hh => hnr hh.2)]; rw [hnone]; rw [if_neg (by decide), if_neg (Nat.not_le.mpr c112)]; rw [if_pos c153, if_pos hny])
        · skip
          refine x_aload_n (pc := 115) dX6_deedOf_115 rfl rfl ?_
          refine x_aload_n (pc := 116) dX6_deedOf_116 rfl rfl ?_
          refine x_get (pc := 117) dX6_deedOf_117 kf_RX6_41 s0 rfl ?_
          rw [hta]
          refine x_iload_n (pc := 120) dX6_deedOf_120 rfl rfl ?_
          refine x_iload_n (pc := 121) dX6_deedOf_121 rfl rfl ?_
          refine x_bipush (pc := 122) (v := 6) dX6_deedOf_122 (by decide) ?_
          refine x_icmpn_eq (pc := 124) (tgt := 131) (a := (ki bi)) (b := 6) dX6_deedOf_124 (by decide) (by omega) (by decide) (fun c124 => ?_) (fun c124 => ?_)
          · skip
            refine x_iconst (pc := 131) (v := 0) dX6_deedOf_131 (by decide) ?_
            refine x_callV (pc := 132) (As := [.int _, .int _, .int _]) dX6_deedOf_132 km_X6_cameTo kv_X6_cameTo kl_RX6_166 s0 rfl rfl (by decide) ⟨Nat.le_refl _, Nat.le_refl _⟩ rfl (Nat.le_of_ble_eq_true rfl) (Nat.le_of_ble_eq_true rfl) (c_cameTo_out hS0 hc hn6 hce hc36 hta ht ha ht (fun hq => ⟨rfl, rfl, ?_⟩) (fun hnq => ⟨rfl, rfl, ?_⟩))
            · skip
              refine x_if_eq_f (pc := 135) (tgt := 142) dX6_deedOf_135 (by decide) (by decide) ?_
              refine x_iconst (pc := 138) (v := 2) dX6_deedOf_138 (by decide) ?_
              refine x_goto (pc := 139) (tgt := 143) dX6_deedOf_139 (by decide) ?_
              refine x_ireturn (pc := 143) dX6_deedOf_143 ⟨_, rfl, rfl⟩ ⟨Nat.le_refl _, Nat.le_refl _⟩ ?_
              exact fin 2 _ (by unfold deedF; rw [if_neg (fun hh => hnr hh.2)]; rw [hnone]; rw [if_neg (by decide), if_pos c112]; rw [if_pos c124, dCome_y hq])
            · skip
              refine x_if_eq_t (pc := 135) (tgt := 142) dX6_deedOf_135 (by decide) (by decide) ?_
              refine x_iconst (pc := 142) (v := 0) dX6_deedOf_142 (by decide) ?_
              refine x_ireturn (pc := 143) dX6_deedOf_143 ⟨_, rfl, rfl⟩ ⟨Nat.le_refl _, Nat.le_refl _⟩ ?_
              exact fin0 (by unfold deedF; rw [if_neg (fun hh => hnr hh.2)]; rw [hnone]; rw [if_neg (by decide), if_pos c112]; rw [if_pos c124, dCome_n hnq])
          · skip
            refine x_iconst (pc := 127) (v := 1) dX6_deedOf_127 (by decide) ?_
            refine x_goto (pc := 128) (tgt := 132) dX6_deedOf_128 (by decide) ?_
            refine x_callV (pc := 132) (As := [.int _, .int _, .int _]) dX6_deedOf_132 km_X6_cameTo kv_X6_cameTo kl_RX6_166 s0 rfl rfl (by decide) ⟨Nat.le_refl _, Nat.le_refl _⟩ rfl (Nat.le_of_ble_eq_true rfl) (Nat.le_of_ble_eq_true rfl) (c_cameTo_in hS0 hc hn6 hce hc36 hta ht ha ht (fun hq => ⟨rfl, rfl, ?_⟩) (fun hnq => ⟨rfl, rfl, ?_⟩))
            · skip
              refine x_if_eq_f (pc := 135) (tgt := 142) dX6_deedOf_135 (by decide) (by decide) ?_
              refine x_iconst (pc := 138) (v := 2) dX6_deedOf_138 (by decide) ?_
              refine x_goto (pc := 139) (tgt := 143) dX6_deedOf_139 (by decide) ?_
              refine x_ireturn (pc := 143) dX6_deedOf_143 ⟨_, rfl, rfl⟩ ⟨Nat.le_refl _, Nat.le_refl _⟩ ?_
              exact fin 2 _ (by unfold deedF; rw [if_neg (fun hh => hnr hh.2)]; rw [hnone]; rw [if_neg (by decide), if_pos c112]; rw [if_neg c124, dCome_y hq])
            · skip
              refine x_if_eq_t (pc := 135) (tgt := 142) dX6_deedOf_135 (by decide) (by decide) ?_
              refine x_iconst (pc := 142) (v := 0) dX6_deedOf_142 (by decide) ?_
              refine x_ireturn (pc := 143) dX6_deedOf_143 ⟨_, rfl, rfl⟩ ⟨Nat.le_refl _, Nat.le_refl _⟩ ?_
              exact fin0 (by unfold deedF; rw [if_neg (fun hh => hnr hh.2)]; rw [hnone]; rw [if_neg (by decide), if_pos c112]; rw [if_neg c124, dCome_n hnq])

