/-! ===== the reference: deeds, a tenth ===== -/
set_option maxHeartbeats 4000000 in
set_option maxRecDepth 100000 in
theorem m_doesOf_0 {T : xT} {n : Nat} {sh : Nat → Nat × Nat} {I : xI} {R : xR} {L : xL} {P : xPost} {M nb ta te lo : Nat} {ki ve ce sto hu : Nat → Nat} {o : Option xAR} {bi : Nat} (h : MS sh R I M nb ki ve ce sto hu ta te lo o) (hb : bi < nb) (hk : ki bi = 0) (K : ∀ I2 : xI, mdFr M I I2 → I2 M 37 = nI (deedN nb ki ve ce sto hu ta te lo (lnO o) bi).2 → P (n, sh, 0, 0) I2 R L (some (.int (nI (deedN nb ki ve ce sto hu ta te lo (lnO o) bi).1)))) : XM T zX10_doesOf 4 [.ref M, .int (nI bi)] n sh I R L P := by
  have hM0 := h.1
  refine x_aload_n (pc := 0) dX10_doesOf_0 rfl rfl ?_
  refine x_iload_n (pc := 1) dX10_doesOf_1 rfl rfl ?_
  refine x_callV (pc := 2) (As := [.int _]) dX10_doesOf_2 km_X10_layLines kv_X10_layLines kl_RX10_331 h.1.s rfl rfl (by decide) ⟨Nat.le_refl _, Nat.le_refl _⟩ rfl (Nat.le_of_ble_eq_true rfl) (Nat.le_of_ble_eq_true rfl) (m_layLines h hb (fun I2 g1 y2 c2 => ⟨rfl, rfl, ?_⟩))
  have h2 := h.keep g1
  obtain ⟨hM, hn6, hnb, hki, hve, hc, hsto, hhu, hbd, hta, ht, hte, hte2, hlo, hlo2, hln⟩ := id h2
  have hce : ∀ i, i < nb → ce i < 36 := fun i hi => (hbd i hi).2.2.1
  obtain ⟨hk7, hv10, hc36, hs36, hu10⟩ := hbd bi hb
  have hfl := far_lt hc36 ht
  have hfs := far_lt hc36 hs36
  have hyl : ylOf (lnAt (lnO o) nb ce hu te bi) lo < 200 := by unfold ylOf; have := mn_le (a := (lnAt (lnO o) nb ce hu te bi).1) (b := 9); omega
  have hcl : clOf (lnAt (lnO o) nb ce hu te bi) (ki bi) (ve bi) lo < 200 := by unfold clOf; have h1 : cm (mn (lnAt (lnO o) nb ce hu te bi).1 9) (lnAt (lnO o) nb ce hu te bi).2 ≤ 9 := (by unfold cm; split; omega; have := mn_le (a := (lnAt (lnO o) nb ce hu te bi).1) (b := 9); have := mn_le (a := (lnAt (lnO o) nb ce hu te bi).2) (b := mn (lnAt (lnO o) nb ce hu te bi).1 9 - 1); omega); split <;> omega
  obtain ⟨YV, hYV⟩ : ∃ z, z = ylOf (lnAt (lnO o) nb ce hu te bi) lo := ⟨_, rfl⟩
  obtain ⟨CV, hCV⟩ : ∃ z, z = clOf (lnAt (lnO o) nb ce hu te bi) (ki bi) (ve bi) lo := ⟨_, rfl⟩
  rw [← hYV] at y2 hyl
  rw [← hCV] at c2 hcl
  have hdN : deedN nb ki ve ce sto hu ta te lo (lnO o) bi = deedF nb ce 0 (ve bi) (sto bi) ta te YV CV (ce bi) := by unfold deedN; rw [hYV, hCV, hk]
  have hy36 : yPk nb ce ta (ce bi) 4 < 36 := pick_lt hc36 4
  have hq36 : cPk nb ce true ta ta (ce bi) 4 < 36 := pick_lt hc36 4
  have hs4 : cPk nb ce false ta (sto bi) (ce bi) 4 < 36 := pick_lt hc36 4
  refine x_aload_n (pc := 5) dX10_doesOf_5 rfl rfl ?_
  refine x_aload_n (pc := 6) dX10_doesOf_6 rfl rfl ?_
  refine x_getr (pc := 7) dX10_doesOf_7 kf_RX10_101 h.1.s rfl h.1.f15 ?_
  refine x_iload_n (pc := 10) dX10_doesOf_10 rfl rfl ?_
  refine x_ialdn (pc := 11) (a := bi) dX10_doesOf_11 h.1.s15 (by omega) (by omega) ?_
  rw [hc bi hb]
  refine x_aload_n (pc := 12) dX10_doesOf_12 rfl rfl ?_
  refine x_get (pc := 13) dX10_doesOf_13 kf_RX10_92 h.1.s rfl ?_
  rw [hta]
  refine x_callV (pc := 16) (As := [.int _, .int _]) dX10_doesOf_16 km_X10_far kv_X10_far kl_RX10_301 h.1.s rfl rfl (by decide) ⟨Nat.le_refl _, Nat.le_refl _⟩ rfl (Nat.le_of_ble_eq_true rfl) (Nat.le_of_ble_eq_true rfl) (m_far h.1.s hc36 ht (⟨rfl, rfl, ?_⟩))
  refine x_istore_n (pc := 19) (lv' := [(0, .ref M), (1, .int (nI bi)), (2, .int (nI (far (ce bi) ta)))]) dX10_doesOf_19 rfl (by decide) rfl ?_
  refine x_iload_n (pc := 20) dX10_doesOf_20 rfl rfl ?_
  refine x_aload_n (pc := 21) dX10_doesOf_21 rfl rfl ?_
  refine x_get (pc := 22) dX10_doesOf_22 kf_RX10_120 h.1.s rfl ?_
  rw [c2]
  refine x_icmpn_gt (pc := 25) (tgt := 32) (a := (far (ce bi) ta)) (b := CV) dX10_doesOf_25 (by decide) (by omega) (by omega) (fun c25 => ?_) (fun c25 => ?_)
  · skip
    refine x_iconst (pc := 32) (v := 0) dX10_doesOf_32 (by decide) ?_
    refine x_istore_n (pc := 33) (lv' := [(0, .ref M), (1, .int (nI bi)), (2, .int (nI (far (ce bi) ta))), (3, .int 0)]) dX10_doesOf_33 rfl (by decide) rfl ?_
    refine x_iload_n (pc := 34) dX10_doesOf_34 rfl rfl ?_
    refine x_aload_n (pc := 35) dX10_doesOf_35 rfl rfl ?_
    refine x_get (pc := 36) dX10_doesOf_36 kf_RX10_117 h.1.s rfl ?_
    rw [y2]
    refine x_icmpn_gt (pc := 39) (tgt := 46) (a := (far (ce bi) ta)) (b := YV) dX10_doesOf_39 (by decide) (by omega) (by omega) (fun c39 => ?_) (fun c39 => ?_)
    · skip
      refine x_iconst (pc := 46) (v := 0) dX10_doesOf_46 (by decide) ?_
      refine x_istore (pc := 47) (lv' := [(0, .ref M), (1, .int (nI bi)), (2, .int (nI (far (ce bi) ta))), (3, .int 0), (4, .int 0)]) dX10_doesOf_47 (by decide) rfl ?_
      refine x_aload_n (pc := 49) dX10_doesOf_49 rfl rfl ?_
      refine x_iload_n (pc := 50) dX10_doesOf_50 rfl rfl ?_
      refine x_aload_n (pc := 51) dX10_doesOf_51 rfl rfl ?_
      refine x_get (pc := 52) dX10_doesOf_52 kf_RX10_92 h.1.s rfl ?_
      rw [hta]
      refine x_iconst (pc := 55) (v := 0) dX10_doesOf_55 (by decide) ?_
      refine x_iconst (pc := 56) (v := 1) dX10_doesOf_56 (by decide) ?_
      refine x_callV (pc := 57) (As := [.int _, .int _, .int _, .int _]) dX10_doesOf_57 km_X10_nextBy kv_X10_nextBy kl_RX10_334 h.1.s rfl rfl (by decide) ⟨Nat.le_refl _, Nat.le_refl _⟩ rfl (Nat.le_of_ble_eq_true rfl) (Nat.le_of_ble_eq_true rfl) (m_nextBy_y h2 hb ht (⟨rfl, rfl, ?_⟩))
      rw [yPk2]
      refine x_istore (pc := 60) (lv' := [(0, .ref M), (1, .int (nI bi)), (2, .int (nI (far (ce bi) ta))), (3, .int 0), (4, .int 0), (5, .int (nI (yPk nb ce ta (ce bi) 4)))]) dX10_doesOf_60 (by decide) rfl ?_
      refine x_aload_n (pc := 62) dX10_doesOf_62 rfl rfl ?_
      refine x_iload_n (pc := 63) dX10_doesOf_63 rfl rfl ?_
      refine x_aload_n (pc := 64) dX10_doesOf_64 rfl rfl ?_
      refine x_get (pc := 65) dX10_doesOf_65 kf_RX10_92 h.1.s rfl ?_
      rw [hta]
      refine x_iconst (pc := 68) (v := 1) dX10_doesOf_68 (by decide) ?_
      refine x_iconst (pc := 69) (v := 0) dX10_doesOf_69 (by decide) ?_
      refine x_callV (pc := 70) (As := [.int _, .int _, .int _, .int _]) dX10_doesOf_70 km_X10_nextBy kv_X10_nextBy kl_RX10_334 h.1.s rfl rfl (by decide) ⟨Nat.le_refl _, Nat.le_refl _⟩ rfl (Nat.le_of_ble_eq_true rfl) (Nat.le_of_ble_eq_true rfl) (m_nextBy_c h2 hb ht (⟨rfl, rfl, ?_⟩))
      rw [show pick (cOk nb ce true ta) (cBet ta) (ce bi) 4 = cPk nb ce true ta ta (ce bi) 4 from rfl]
      refine x_istore (pc := 73) (lv' := [(0, .ref M), (1, .int (nI bi)), (2, .int (nI (far (ce bi) ta))), (3, .int 0), (4, .int 0), (5, .int (nI (yPk nb ce ta (ce bi) 4))), (6, .int (nI (cPk nb ce true ta ta (ce bi) 4)))]) dX10_doesOf_73 (by decide) rfl ?_
      refine x_aload_n (pc := 75) dX10_doesOf_75 rfl rfl ?_
      refine x_aload_n (pc := 76) dX10_doesOf_76 rfl rfl ?_
      refine x_getr (pc := 77) dX10_doesOf_77 kf_RX10_101 h.1.s rfl h.1.f15 ?_
      refine x_iload_n (pc := 80) dX10_doesOf_80 rfl rfl ?_
      refine x_ialdn (pc := 81) (a := bi) dX10_doesOf_81 h.1.s15 (by omega) (by omega) ?_
      rw [hc bi hb]
      refine x_put (pc := 82) dX10_doesOf_82 kf_RX10_123 h.1.s rfl (Or.inl kb_10_37) ?_
      have h3 := h2.keep (mdFr.fld (k := 37) (x := nI (ce bi)) (by omega))
      obtain ⟨hM, hn6, hnb, hki, hve, hc, hsto, hhu, hbd, hta, ht, hte, hte2, hlo, hlo2, hln⟩ := id h3
      have fin : ∀ d z, deedN nb ki ve ce sto hu ta te lo (lnO o) bi = (d, z) → P (n, sh, 0, 0) (up2 (up2 I2 M 37 (nI (ce bi))) M 37 (nI z)) R L (some (.int (nI d))) := fun d z e => by
        have h9 := K _ (g1.tr ((mdFr.fld (k := 37) (x := nI (ce bi)) (by omega)).tr (mdFr.fld (k := 37) (x := nI z) (by omega)))) (by rw [e]; exact up2_s)
        rw [e] at h9
        exact h9
      refine x_iload_n (pc := 85) dX10_doesOf_85 rfl rfl ?_
      refine x_if_eq_t (pc := 86) (tgt := 93) dX10_doesOf_86 (by decide) (by decide) ?_
      refine x_iload (pc := 93) dX10_doesOf_93 rfl ?_
      refine x_if_eq_t (pc := 95) (tgt := 102) dX10_doesOf_95 (by decide) (by decide) ?_
      refine x_iconst (pc := 102) (v := 0) dX10_doesOf_102 (by decide) ?_
      refine x_istore (pc := 103) (lv' := [(0, .ref M), (1, .int (nI bi)), (2, .int (nI (far (ce bi) ta))), (3, .int 0), (4, .int 0), (5, .int (nI (yPk nb ce ta (ce bi) 4))), (6, .int (nI (cPk nb ce true ta ta (ce bi) 4))), (7, .int 0)]) dX10_doesOf_103 (by decide) rfl ?_
      refine x_aload_n (pc := 105) dX10_doesOf_105 rfl rfl ?_
      refine x_getr (pc := 106) dX10_doesOf_106 kf_RX10_104 h.1.s rfl h.1.f16 ?_
      refine x_iload_n (pc := 109) dX10_doesOf_109 rfl rfl ?_
      refine x_ialdn (pc := 110) (a := bi) dX10_doesOf_110 h.1.s16 (by omega) (by omega) ?_
      rw [hki bi hb, hk, show nI 0 = 0 from rfl]
      refine x_tsw (pc := 111) (dt := 320) [(1, 148), (2, 320), (3, 167), (4, 201), (5, 235), (6, 283)] dX10_doesOf_111 (by decide +kernel) (by decide) ?_
      refine xsw_c (fun h => absurd h (by decide)) (fun _ => ?_)
      refine xsw_c (fun h => absurd h (by decide)) (fun _ => ?_)
      refine xsw_c (fun h => absurd h (by decide)) (fun _ => ?_)
      refine xsw_c (fun h => absurd h (by decide)) (fun _ => ?_)
      refine xsw_c (fun h => absurd h (by decide)) (fun _ => ?_)
      refine xsw_c (fun h => absurd h (by decide)) (fun _ => ?_)
      refine xsw_n ?_
      refine x_aload_n (pc := 320) dX10_doesOf_320 rfl rfl ?_
      refine x_iload (pc := 321) dX10_doesOf_321 rfl ?_
      refine x_iconst (pc := 323) (v := 1) dX10_doesOf_323 (by decide) ?_
      refine x_icmp_ne_t (pc := 324) (tgt := 332) dX10_doesOf_324 (by decide) (by decide) ?_
      refine x_iload (pc := 332) dX10_doesOf_332 rfl ?_
      refine x_iconst (pc := 334) (v := 2) dX10_doesOf_334 (by decide) ?_
      refine x_icmp_ne_t (pc := 335) (tgt := 343) dX10_doesOf_335 (by decide) (by decide) ?_
      refine x_iload (pc := 343) dX10_doesOf_343 rfl ?_
      refine x_iconst (pc := 345) (v := 3) dX10_doesOf_345 (by decide) ?_
      refine x_icmp_ne_t (pc := 346) (tgt := 365) dX10_doesOf_346 (by decide) (by decide) ?_
      refine x_aload_n (pc := 365) dX10_doesOf_365 rfl rfl ?_
      refine x_getr (pc := 366) dX10_doesOf_366 kf_RX10_101 h.1.s rfl h.1.f15 ?_
      refine x_iload_n (pc := 369) dX10_doesOf_369 rfl rfl ?_
      refine x_ialdn (pc := 370) (a := bi) dX10_doesOf_370 h.1.s15 (by omega) (by omega) ?_
      rw [hc bi hb]
      refine x_put (pc := 371) dX10_doesOf_371 kf_RX10_123 h.1.s rfl (Or.inl kb_10_37) ?_
      refine x_aload_n (pc := 374) dX10_doesOf_374 rfl rfl ?_
      refine x_get (pc := 375) dX10_doesOf_375 kf_RX10_123 h.1.s rfl ?_
      rw [up2_s]
      refine x_aload_n (pc := 378) dX10_doesOf_378 rfl rfl ?_
      refine x_getr (pc := 379) dX10_doesOf_379 kf_RX10_101 h.1.s rfl h.1.f15 ?_
      refine x_iload_n (pc := 382) dX10_doesOf_382 rfl rfl ?_
      refine x_ialdn (pc := 383) (a := bi) dX10_doesOf_383 h.1.s15 (by omega) (by omega) ?_
      rw [up2_a (show M + 16 ≠ M by omega), hc bi hb]
      refine x_icmp_ne_f (pc := 384) (tgt := 391) dX10_doesOf_384 (by decide) (rfl) ?_
      refine x_iconst (pc := 387) (v := 0) dX10_doesOf_387 (by decide) ?_
      refine x_goto (pc := 388) (tgt := 393) dX10_doesOf_388 (by decide) ?_
      refine x_ireturn (pc := 393) dX10_doesOf_393 ⟨_, rfl, rfl⟩ ⟨Nat.le_refl _, Nat.le_refl _⟩ ?_
      have hd : deedN nb ki ve ce sto hu ta te lo (lnO o) bi = (0, (ce bi)) := by
        rw [hdN]
        simp [deedF, yDeed, dCome, show isOne 0 1 = false from by decide, Nat.not_le.mpr c25, Nat.not_le.mpr c39]
      exact fin 0 _ hd
    · skip
      refine x_iconst (pc := 42) (v := 1) dX10_doesOf_42 (by decide) ?_
      refine x_goto (pc := 43) (tgt := 47) dX10_doesOf_43 (by decide) ?_
      refine x_istore (pc := 47) (lv' := [(0, .ref M), (1, .int (nI bi)), (2, .int (nI (far (ce bi) ta))), (3, .int 0), (4, .int 1)]) dX10_doesOf_47 (by decide) rfl ?_
      refine x_aload_n (pc := 49) dX10_doesOf_49 rfl rfl ?_
      refine x_iload_n (pc := 50) dX10_doesOf_50 rfl rfl ?_
      refine x_aload_n (pc := 51) dX10_doesOf_51 rfl rfl ?_
      refine x_get (pc := 52) dX10_doesOf_52 kf_RX10_92 h.1.s rfl ?_
      rw [hta]
      refine x_iconst (pc := 55) (v := 0) dX10_doesOf_55 (by decide) ?_
      refine x_iconst (pc := 56) (v := 1) dX10_doesOf_56 (by decide) ?_
      refine x_callV (pc := 57) (As := [.int _, .int _, .int _, .int _]) dX10_doesOf_57 km_X10_nextBy kv_X10_nextBy kl_RX10_334 h.1.s rfl rfl (by decide) ⟨Nat.le_refl _, Nat.le_refl _⟩ rfl (Nat.le_of_ble_eq_true rfl) (Nat.le_of_ble_eq_true rfl) (m_nextBy_y h2 hb ht (⟨rfl, rfl, ?_⟩))
      rw [yPk2]
      refine x_istore (pc := 60) (lv' := [(0, .ref M), (1, .int (nI bi)), (2, .int (nI (far (ce bi) ta))), (3, .int 0), (4, .int 1), (5, .int (nI (yPk nb ce ta (ce bi) 4)))]) dX10_doesOf_60 (by decide) rfl ?_
      refine x_aload_n (pc := 62) dX10_doesOf_62 rfl rfl ?_
      refine x_iload_n (pc := 63) dX10_doesOf_63 rfl rfl ?_
      refine x_aload_n (pc := 64) dX10_doesOf_64 rfl rfl ?_
      refine x_get (pc := 65) dX10_doesOf_65 kf_RX10_92 h.1.s rfl ?_
      rw [hta]
      refine x_iconst (pc := 68) (v := 1) dX10_doesOf_68 (by decide) ?_
      refine x_iconst (pc := 69) (v := 0) dX10_doesOf_69 (by decide) ?_
      refine x_callV (pc := 70) (As := [.int _, .int _, .int _, .int _]) dX10_doesOf_70 km_X10_nextBy kv_X10_nextBy kl_RX10_334 h.1.s rfl rfl (by decide) ⟨Nat.le_refl _, Nat.le_refl _⟩ rfl (Nat.le_of_ble_eq_true rfl) (Nat.le_of_ble_eq_true rfl) (m_nextBy_c h2 hb ht (⟨rfl, rfl, ?_⟩))
      rw [show pick (cOk nb ce true ta) (cBet ta) (ce bi) 4 = cPk nb ce true ta ta (ce bi) 4 from rfl]
      refine x_istore (pc := 73) (lv' := [(0, .ref M), (1, .int (nI bi)), (2, .int (nI (far (ce bi) ta))), (3, .int 0), (4, .int 1), (5, .int (nI (yPk nb ce ta (ce bi) 4))), (6, .int (nI (cPk nb ce true ta ta (ce bi) 4)))]) dX10_doesOf_73 (by decide) rfl ?_
      refine x_aload_n (pc := 75) dX10_doesOf_75 rfl rfl ?_
      refine x_aload_n (pc := 76) dX10_doesOf_76 rfl rfl ?_
      refine x_getr (pc := 77) dX10_doesOf_77 kf_RX10_101 h.1.s rfl h.1.f15 ?_
      refine x_iload_n (pc := 80) dX10_doesOf_80 rfl rfl ?_
      refine x_ialdn (pc := 81) (a := bi) dX10_doesOf_81 h.1.s15 (by omega) (by omega) ?_
      rw [hc bi hb]
      refine x_put (pc := 82) dX10_doesOf_82 kf_RX10_123 h.1.s rfl (Or.inl kb_10_37) ?_
      have h3 := h2.keep (mdFr.fld (k := 37) (x := nI (ce bi)) (by omega))
      obtain ⟨hM, hn6, hnb, hki, hve, hc, hsto, hhu, hbd, hta, ht, hte, hte2, hlo, hlo2, hln⟩ := id h3
      have fin : ∀ d z, deedN nb ki ve ce sto hu ta te lo (lnO o) bi = (d, z) → P (n, sh, 0, 0) (up2 (up2 I2 M 37 (nI (ce bi))) M 37 (nI z)) R L (some (.int (nI d))) := fun d z e => by
        have h9 := K _ (g1.tr ((mdFr.fld (k := 37) (x := nI (ce bi)) (by omega)).tr (mdFr.fld (k := 37) (x := nI z) (by omega)))) (by rw [e]; exact up2_s)
        rw [e] at h9
        exact h9
      refine x_iload_n (pc := 85) dX10_doesOf_85 rfl rfl ?_
      refine x_if_eq_t (pc := 86) (tgt := 93) dX10_doesOf_86 (by decide) (by decide) ?_
      refine x_iload (pc := 93) dX10_doesOf_93 rfl ?_
      refine x_if_eq_f (pc := 95) (tgt := 102) dX10_doesOf_95 (by decide) (by decide) ?_
      refine x_iconst (pc := 98) (v := 1) dX10_doesOf_98 (by decide) ?_
      refine x_goto (pc := 99) (tgt := 103) dX10_doesOf_99 (by decide) ?_
      refine x_istore (pc := 103) (lv' := [(0, .ref M), (1, .int (nI bi)), (2, .int (nI (far (ce bi) ta))), (3, .int 0), (4, .int 1), (5, .int (nI (yPk nb ce ta (ce bi) 4))), (6, .int (nI (cPk nb ce true ta ta (ce bi) 4))), (7, .int 1)]) dX10_doesOf_103 (by decide) rfl ?_
      refine x_aload_n (pc := 105) dX10_doesOf_105 rfl rfl ?_
      refine x_getr (pc := 106) dX10_doesOf_106 kf_RX10_104 h.1.s rfl h.1.f16 ?_
      refine x_iload_n (pc := 109) dX10_doesOf_109 rfl rfl ?_
      refine x_ialdn (pc := 110) (a := bi) dX10_doesOf_110 h.1.s16 (by omega) (by omega) ?_
      rw [hki bi hb, hk, show nI 0 = 0 from rfl]
      refine x_tsw (pc := 111) (dt := 320) [(1, 148), (2, 320), (3, 167), (4, 201), (5, 235), (6, 283)] dX10_doesOf_111 (by decide +kernel) (by decide) ?_
      refine xsw_c (fun h => absurd h (by decide)) (fun _ => ?_)
      refine xsw_c (fun h => absurd h (by decide)) (fun _ => ?_)
      refine xsw_c (fun h => absurd h (by decide)) (fun _ => ?_)
      refine xsw_c (fun h => absurd h (by decide)) (fun _ => ?_)
      refine xsw_c (fun h => absurd h (by decide)) (fun _ => ?_)
      refine xsw_c (fun h => absurd h (by decide)) (fun _ => ?_)
      refine xsw_n ?_
      refine x_aload_n (pc := 320) dX10_doesOf_320 rfl rfl ?_
      refine x_iload (pc := 321) dX10_doesOf_321 rfl ?_
      refine x_iconst (pc := 323) (v := 1) dX10_doesOf_323 (by decide) ?_
      refine x_icmp_ne_f (pc := 324) (tgt := 332) dX10_doesOf_324 (by decide) (by decide) ?_
      refine x_iload (pc := 327) dX10_doesOf_327 rfl ?_
      refine x_goto (pc := 329) (tgt := 371) dX10_doesOf_329 (by decide) ?_
      refine x_put (pc := 371) dX10_doesOf_371 kf_RX10_123 h.1.s rfl (Or.inl kb_10_37) ?_
      refine x_aload_n (pc := 374) dX10_doesOf_374 rfl rfl ?_
      refine x_get (pc := 375) dX10_doesOf_375 kf_RX10_123 h.1.s rfl ?_
      rw [up2_s]
      refine x_aload_n (pc := 378) dX10_doesOf_378 rfl rfl ?_
      refine x_getr (pc := 379) dX10_doesOf_379 kf_RX10_101 h.1.s rfl h.1.f15 ?_
      refine x_iload_n (pc := 382) dX10_doesOf_382 rfl rfl ?_
      refine x_ialdn (pc := 383) (a := bi) dX10_doesOf_383 h.1.s15 (by omega) (by omega) ?_
      rw [up2_a (show M + 16 ≠ M by omega), hc bi hb]
      refine x_icmpn_ne (pc := 384) (tgt := 391) (a := (yPk nb ce ta (ce bi) 4)) (b := (ce bi)) dX10_doesOf_384 (by decide) (by omega) (by omega) (fun c384 => ?_) (fun c384 => ?_)
      · skip
        refine x_iload (pc := 391) dX10_doesOf_391 rfl ?_
        refine x_ireturn (pc := 393) dX10_doesOf_393 ⟨_, rfl, rfl⟩ ⟨Nat.le_refl _, Nat.le_refl _⟩ ?_
        have hd : deedN nb ki ve ce sto hu ta te lo (lnO o) bi = (1, (yPk nb ce ta (ce bi) 4)) := by
          rw [hdN]
          simp [deedF, yDeed, dCome, show isOne 0 1 = false from by decide, Nat.not_le.mpr c25, c39, c384]
        exact fin 1 _ hd
      · skip
        refine x_iconst (pc := 387) (v := 0) dX10_doesOf_387 (by decide) ?_
        refine x_goto (pc := 388) (tgt := 393) dX10_doesOf_388 (by decide) ?_
        refine x_ireturn (pc := 393) dX10_doesOf_393 ⟨_, rfl, rfl⟩ ⟨Nat.le_refl _, Nat.le_refl _⟩ ?_
        have hd : deedN nb ki ve ce sto hu ta te lo (lnO o) bi = (0, (yPk nb ce ta (ce bi) 4)) := by
          rw [hdN]
          simp [deedF, yDeed, dCome, show isOne 0 1 = false from by decide, Nat.not_le.mpr c25, c39, c384]
        exact fin 0 _ hd
  · skip
    refine x_iconst (pc := 28) (v := 1) dX10_doesOf_28 (by decide) ?_
    refine x_goto (pc := 29) (tgt := 33) dX10_doesOf_29 (by decide) ?_
    refine x_istore_n (pc := 33) (lv' := [(0, .ref M), (1, .int (nI bi)), (2, .int (nI (far (ce bi) ta))), (3, .int 1)]) dX10_doesOf_33 rfl (by decide) rfl ?_
    refine x_iload_n (pc := 34) dX10_doesOf_34 rfl rfl ?_
    refine x_aload_n (pc := 35) dX10_doesOf_35 rfl rfl ?_
    refine x_get (pc := 36) dX10_doesOf_36 kf_RX10_117 h.1.s rfl ?_
    rw [y2]
    refine x_icmpn_gt (pc := 39) (tgt := 46) (a := (far (ce bi) ta)) (b := YV) dX10_doesOf_39 (by decide) (by omega) (by omega) (fun c39 => ?_) (fun c39 => ?_)
    · skip
      refine x_iconst (pc := 46) (v := 0) dX10_doesOf_46 (by decide) ?_
      refine x_istore (pc := 47) (lv' := [(0, .ref M), (1, .int (nI bi)), (2, .int (nI (far (ce bi) ta))), (3, .int 1), (4, .int 0)]) dX10_doesOf_47 (by decide) rfl ?_
      refine x_aload_n (pc := 49) dX10_doesOf_49 rfl rfl ?_
      refine x_iload_n (pc := 50) dX10_doesOf_50 rfl rfl ?_
      refine x_aload_n (pc := 51) dX10_doesOf_51 rfl rfl ?_
      refine x_get (pc := 52) dX10_doesOf_52 kf_RX10_92 h.1.s rfl ?_
      rw [hta]
      refine x_iconst (pc := 55) (v := 0) dX10_doesOf_55 (by decide) ?_
      refine x_iconst (pc := 56) (v := 1) dX10_doesOf_56 (by decide) ?_
      refine x_callV (pc := 57) (As := [.int _, .int _, .int _, .int _]) dX10_doesOf_57 km_X10_nextBy kv_X10_nextBy kl_RX10_334 h.1.s rfl rfl (by decide) ⟨Nat.le_refl _, Nat.le_refl _⟩ rfl (Nat.le_of_ble_eq_true rfl) (Nat.le_of_ble_eq_true rfl) (m_nextBy_y h2 hb ht (⟨rfl, rfl, ?_⟩))
      rw [yPk2]
      refine x_istore (pc := 60) (lv' := [(0, .ref M), (1, .int (nI bi)), (2, .int (nI (far (ce bi) ta))), (3, .int 1), (4, .int 0), (5, .int (nI (yPk nb ce ta (ce bi) 4)))]) dX10_doesOf_60 (by decide) rfl ?_
      refine x_aload_n (pc := 62) dX10_doesOf_62 rfl rfl ?_
      refine x_iload_n (pc := 63) dX10_doesOf_63 rfl rfl ?_
      refine x_aload_n (pc := 64) dX10_doesOf_64 rfl rfl ?_
      refine x_get (pc := 65) dX10_doesOf_65 kf_RX10_92 h.1.s rfl ?_
      rw [hta]
      refine x_iconst (pc := 68) (v := 1) dX10_doesOf_68 (by decide) ?_
      refine x_iconst (pc := 69) (v := 0) dX10_doesOf_69 (by decide) ?_
      refine x_callV (pc := 70) (As := [.int _, .int _, .int _, .int _]) dX10_doesOf_70 km_X10_nextBy kv_X10_nextBy kl_RX10_334 h.1.s rfl rfl (by decide) ⟨Nat.le_refl _, Nat.le_refl _⟩ rfl (Nat.le_of_ble_eq_true rfl) (Nat.le_of_ble_eq_true rfl) (m_nextBy_c h2 hb ht (⟨rfl, rfl, ?_⟩))
      rw [show pick (cOk nb ce true ta) (cBet ta) (ce bi) 4 = cPk nb ce true ta ta (ce bi) 4 from rfl]
      refine x_istore (pc := 73) (lv' := [(0, .ref M), (1, .int (nI bi)), (2, .int (nI (far (ce bi) ta))), (3, .int 1), (4, .int 0), (5, .int (nI (yPk nb ce ta (ce bi) 4))), (6, .int (nI (cPk nb ce true ta ta (ce bi) 4)))]) dX10_doesOf_73 (by decide) rfl ?_
      refine x_aload_n (pc := 75) dX10_doesOf_75 rfl rfl ?_
      refine x_aload_n (pc := 76) dX10_doesOf_76 rfl rfl ?_
      refine x_getr (pc := 77) dX10_doesOf_77 kf_RX10_101 h.1.s rfl h.1.f15 ?_
      refine x_iload_n (pc := 80) dX10_doesOf_80 rfl rfl ?_
      refine x_ialdn (pc := 81) (a := bi) dX10_doesOf_81 h.1.s15 (by omega) (by omega) ?_
      rw [hc bi hb]
      refine x_put (pc := 82) dX10_doesOf_82 kf_RX10_123 h.1.s rfl (Or.inl kb_10_37) ?_
      have h3 := h2.keep (mdFr.fld (k := 37) (x := nI (ce bi)) (by omega))
      obtain ⟨hM, hn6, hnb, hki, hve, hc, hsto, hhu, hbd, hta, ht, hte, hte2, hlo, hlo2, hln⟩ := id h3
      have fin : ∀ d z, deedN nb ki ve ce sto hu ta te lo (lnO o) bi = (d, z) → P (n, sh, 0, 0) (up2 (up2 I2 M 37 (nI (ce bi))) M 37 (nI z)) R L (some (.int (nI d))) := fun d z e => by
        have h9 := K _ (g1.tr ((mdFr.fld (k := 37) (x := nI (ce bi)) (by omega)).tr (mdFr.fld (k := 37) (x := nI z) (by omega)))) (by rw [e]; exact up2_s)
        rw [e] at h9
        exact h9
      refine x_iload_n (pc := 85) dX10_doesOf_85 rfl rfl ?_
      refine x_if_eq_f (pc := 86) (tgt := 93) dX10_doesOf_86 (by decide) (by decide) ?_
      refine x_iconst (pc := 89) (v := 2) dX10_doesOf_89 (by decide) ?_
      refine x_goto (pc := 90) (tgt := 103) dX10_doesOf_90 (by decide) ?_
      refine x_istore (pc := 103) (lv' := [(0, .ref M), (1, .int (nI bi)), (2, .int (nI (far (ce bi) ta))), (3, .int 1), (4, .int 0), (5, .int (nI (yPk nb ce ta (ce bi) 4))), (6, .int (nI (cPk nb ce true ta ta (ce bi) 4))), (7, .int 2)]) dX10_doesOf_103 (by decide) rfl ?_
      refine x_aload_n (pc := 105) dX10_doesOf_105 rfl rfl ?_
      refine x_getr (pc := 106) dX10_doesOf_106 kf_RX10_104 h.1.s rfl h.1.f16 ?_
      refine x_iload_n (pc := 109) dX10_doesOf_109 rfl rfl ?_
      refine x_ialdn (pc := 110) (a := bi) dX10_doesOf_110 h.1.s16 (by omega) (by omega) ?_
      rw [hki bi hb, hk, show nI 0 = 0 from rfl]
      refine x_tsw (pc := 111) (dt := 320) [(1, 148), (2, 320), (3, 167), (4, 201), (5, 235), (6, 283)] dX10_doesOf_111 (by decide +kernel) (by decide) ?_
      refine xsw_c (fun h => absurd h (by decide)) (fun _ => ?_)
      refine xsw_c (fun h => absurd h (by decide)) (fun _ => ?_)
      refine xsw_c (fun h => absurd h (by decide)) (fun _ => ?_)
      refine xsw_c (fun h => absurd h (by decide)) (fun _ => ?_)
      refine xsw_c (fun h => absurd h (by decide)) (fun _ => ?_)
      refine xsw_c (fun h => absurd h (by decide)) (fun _ => ?_)
      refine xsw_n ?_
      refine x_aload_n (pc := 320) dX10_doesOf_320 rfl rfl ?_
      refine x_iload (pc := 321) dX10_doesOf_321 rfl ?_
      refine x_iconst (pc := 323) (v := 1) dX10_doesOf_323 (by decide) ?_
      refine x_icmp_ne_t (pc := 324) (tgt := 332) dX10_doesOf_324 (by decide) (by decide) ?_
      refine x_iload (pc := 332) dX10_doesOf_332 rfl ?_
      refine x_iconst (pc := 334) (v := 2) dX10_doesOf_334 (by decide) ?_
      refine x_icmp_ne_f (pc := 335) (tgt := 343) dX10_doesOf_335 (by decide) (by decide) ?_
      refine x_iload (pc := 338) dX10_doesOf_338 rfl ?_
      refine x_goto (pc := 340) (tgt := 371) dX10_doesOf_340 (by decide) ?_
      refine x_put (pc := 371) dX10_doesOf_371 kf_RX10_123 h.1.s rfl (Or.inl kb_10_37) ?_
      refine x_aload_n (pc := 374) dX10_doesOf_374 rfl rfl ?_
      refine x_get (pc := 375) dX10_doesOf_375 kf_RX10_123 h.1.s rfl ?_
      rw [up2_s]
      refine x_aload_n (pc := 378) dX10_doesOf_378 rfl rfl ?_
      refine x_getr (pc := 379) dX10_doesOf_379 kf_RX10_101 h.1.s rfl h.1.f15 ?_
      refine x_iload_n (pc := 382) dX10_doesOf_382 rfl rfl ?_
      refine x_ialdn (pc := 383) (a := bi) dX10_doesOf_383 h.1.s15 (by omega) (by omega) ?_
      rw [up2_a (show M + 16 ≠ M by omega), hc bi hb]
      refine x_icmpn_ne (pc := 384) (tgt := 391) (a := (cPk nb ce true ta ta (ce bi) 4)) (b := (ce bi)) dX10_doesOf_384 (by decide) (by omega) (by omega) (fun c384 => ?_) (fun c384 => ?_)
      · skip
        refine x_iload (pc := 391) dX10_doesOf_391 rfl ?_
        refine x_ireturn (pc := 393) dX10_doesOf_393 ⟨_, rfl, rfl⟩ ⟨Nat.le_refl _, Nat.le_refl _⟩ ?_
        have hd : deedN nb ki ve ce sto hu ta te lo (lnO o) bi = (2, (cPk nb ce true ta ta (ce bi) 4)) := by
          rw [hdN]
          simp [deedF, yDeed, dCome, show isOne 0 1 = false from by decide, c25, Nat.not_le.mpr c39, c384]
        exact fin 2 _ hd
      · skip
        refine x_iconst (pc := 387) (v := 0) dX10_doesOf_387 (by decide) ?_
        refine x_goto (pc := 388) (tgt := 393) dX10_doesOf_388 (by decide) ?_
        refine x_ireturn (pc := 393) dX10_doesOf_393 ⟨_, rfl, rfl⟩ ⟨Nat.le_refl _, Nat.le_refl _⟩ ?_
        have hd : deedN nb ki ve ce sto hu ta te lo (lnO o) bi = (0, (cPk nb ce true ta ta (ce bi) 4)) := by
          rw [hdN]
          simp [deedF, yDeed, dCome, show isOne 0 1 = false from by decide, c25, Nat.not_le.mpr c39, c384]
        exact fin 0 _ hd
    · skip
      refine x_iconst (pc := 42) (v := 1) dX10_doesOf_42 (by decide) ?_
      refine x_goto (pc := 43) (tgt := 47) dX10_doesOf_43 (by decide) ?_
      refine x_istore (pc := 47) (lv' := [(0, .ref M), (1, .int (nI bi)), (2, .int (nI (far (ce bi) ta))), (3, .int 1), (4, .int 1)]) dX10_doesOf_47 (by decide) rfl ?_
      refine x_aload_n (pc := 49) dX10_doesOf_49 rfl rfl ?_
      refine x_iload_n (pc := 50) dX10_doesOf_50 rfl rfl ?_
      refine x_aload_n (pc := 51) dX10_doesOf_51 rfl rfl ?_
      refine x_get (pc := 52) dX10_doesOf_52 kf_RX10_92 h.1.s rfl ?_
      rw [hta]
      refine x_iconst (pc := 55) (v := 0) dX10_doesOf_55 (by decide) ?_
      refine x_iconst (pc := 56) (v := 1) dX10_doesOf_56 (by decide) ?_
      refine x_callV (pc := 57) (As := [.int _, .int _, .int _, .int _]) dX10_doesOf_57 km_X10_nextBy kv_X10_nextBy kl_RX10_334 h.1.s rfl rfl (by decide) ⟨Nat.le_refl _, Nat.le_refl _⟩ rfl (Nat.le_of_ble_eq_true rfl) (Nat.le_of_ble_eq_true rfl) (m_nextBy_y h2 hb ht (⟨rfl, rfl, ?_⟩))
      rw [yPk2]
      refine x_istore (pc := 60) (lv' := [(0, .ref M), (1, .int (nI bi)), (2, .int (nI (far (ce bi) ta))), (3, .int 1), (4, .int 1), (5, .int (nI (yPk nb ce ta (ce bi) 4)))]) dX10_doesOf_60 (by decide) rfl ?_
      refine x_aload_n (pc := 62) dX10_doesOf_62 rfl rfl ?_
      refine x_iload_n (pc := 63) dX10_doesOf_63 rfl rfl ?_
      refine x_aload_n (pc := 64) dX10_doesOf_64 rfl rfl ?_
      refine x_get (pc := 65) dX10_doesOf_65 kf_RX10_92 h.1.s rfl ?_
      rw [hta]
      refine x_iconst (pc := 68) (v := 1) dX10_doesOf_68 (by decide) ?_
      refine x_iconst (pc := 69) (v := 0) dX10_doesOf_69 (by decide) ?_
      refine x_callV (pc := 70) (As := [.int _, .int _, .int _, .int _]) dX10_doesOf_70 km_X10_nextBy kv_X10_nextBy kl_RX10_334 h.1.s rfl rfl (by decide) ⟨Nat.le_refl _, Nat.le_refl _⟩ rfl (Nat.le_of_ble_eq_true rfl) (Nat.le_of_ble_eq_true rfl) (m_nextBy_c h2 hb ht (⟨rfl, rfl, ?_⟩))
      rw [show pick (cOk nb ce true ta) (cBet ta) (ce bi) 4 = cPk nb ce true ta ta (ce bi) 4 from rfl]
      refine x_istore (pc := 73) (lv' := [(0, .ref M), (1, .int (nI bi)), (2, .int (nI (far (ce bi) ta))), (3, .int 1), (4, .int 1), (5, .int (nI (yPk nb ce ta (ce bi) 4))), (6, .int (nI (cPk nb ce true ta ta (ce bi) 4)))]) dX10_doesOf_73 (by decide) rfl ?_
      refine x_aload_n (pc := 75) dX10_doesOf_75 rfl rfl ?_
      refine x_aload_n (pc := 76) dX10_doesOf_76 rfl rfl ?_
      refine x_getr (pc := 77) dX10_doesOf_77 kf_RX10_101 h.1.s rfl h.1.f15 ?_
      refine x_iload_n (pc := 80) dX10_doesOf_80 rfl rfl ?_
      refine x_ialdn (pc := 81) (a := bi) dX10_doesOf_81 h.1.s15 (by omega) (by omega) ?_
      rw [hc bi hb]
      refine x_put (pc := 82) dX10_doesOf_82 kf_RX10_123 h.1.s rfl (Or.inl kb_10_37) ?_
      have h3 := h2.keep (mdFr.fld (k := 37) (x := nI (ce bi)) (by omega))
      obtain ⟨hM, hn6, hnb, hki, hve, hc, hsto, hhu, hbd, hta, ht, hte, hte2, hlo, hlo2, hln⟩ := id h3
      have fin : ∀ d z, deedN nb ki ve ce sto hu ta te lo (lnO o) bi = (d, z) → P (n, sh, 0, 0) (up2 (up2 I2 M 37 (nI (ce bi))) M 37 (nI z)) R L (some (.int (nI d))) := fun d z e => by
        have h9 := K _ (g1.tr ((mdFr.fld (k := 37) (x := nI (ce bi)) (by omega)).tr (mdFr.fld (k := 37) (x := nI z) (by omega)))) (by rw [e]; exact up2_s)
        rw [e] at h9
        exact h9
      refine x_iload_n (pc := 85) dX10_doesOf_85 rfl rfl ?_
      refine x_if_eq_f (pc := 86) (tgt := 93) dX10_doesOf_86 (by decide) (by decide) ?_
      refine x_iconst (pc := 89) (v := 2) dX10_doesOf_89 (by decide) ?_
      refine x_goto (pc := 90) (tgt := 103) dX10_doesOf_90 (by decide) ?_
      refine x_istore (pc := 103) (lv' := [(0, .ref M), (1, .int (nI bi)), (2, .int (nI (far (ce bi) ta))), (3, .int 1), (4, .int 1), (5, .int (nI (yPk nb ce ta (ce bi) 4))), (6, .int (nI (cPk nb ce true ta ta (ce bi) 4))), (7, .int 2)]) dX10_doesOf_103 (by decide) rfl ?_
      refine x_aload_n (pc := 105) dX10_doesOf_105 rfl rfl ?_
      refine x_getr (pc := 106) dX10_doesOf_106 kf_RX10_104 h.1.s rfl h.1.f16 ?_
      refine x_iload_n (pc := 109) dX10_doesOf_109 rfl rfl ?_
      refine x_ialdn (pc := 110) (a := bi) dX10_doesOf_110 h.1.s16 (by omega) (by omega) ?_
      rw [hki bi hb, hk, show nI 0 = 0 from rfl]
      refine x_tsw (pc := 111) (dt := 320) [(1, 148), (2, 320), (3, 167), (4, 201), (5, 235), (6, 283)] dX10_doesOf_111 (by decide +kernel) (by decide) ?_
      refine xsw_c (fun h => absurd h (by decide)) (fun _ => ?_)
      refine xsw_c (fun h => absurd h (by decide)) (fun _ => ?_)
      refine xsw_c (fun h => absurd h (by decide)) (fun _ => ?_)
      refine xsw_c (fun h => absurd h (by decide)) (fun _ => ?_)
      refine xsw_c (fun h => absurd h (by decide)) (fun _ => ?_)
      refine xsw_c (fun h => absurd h (by decide)) (fun _ => ?_)
      refine xsw_n ?_
      refine x_aload_n (pc := 320) dX10_doesOf_320 rfl rfl ?_
      refine x_iload (pc := 321) dX10_doesOf_321 rfl ?_
      refine x_iconst (pc := 323) (v := 1) dX10_doesOf_323 (by decide) ?_
      refine x_icmp_ne_t (pc := 324) (tgt := 332) dX10_doesOf_324 (by decide) (by decide) ?_
      refine x_iload (pc := 332) dX10_doesOf_332 rfl ?_
      refine x_iconst (pc := 334) (v := 2) dX10_doesOf_334 (by decide) ?_
      refine x_icmp_ne_f (pc := 335) (tgt := 343) dX10_doesOf_335 (by decide) (by decide) ?_
      refine x_iload (pc := 338) dX10_doesOf_338 rfl ?_
      refine x_goto (pc := 340) (tgt := 371) dX10_doesOf_340 (by decide) ?_
      refine x_put (pc := 371) dX10_doesOf_371 kf_RX10_123 h.1.s rfl (Or.inl kb_10_37) ?_
      refine x_aload_n (pc := 374) dX10_doesOf_374 rfl rfl ?_
      refine x_get (pc := 375) dX10_doesOf_375 kf_RX10_123 h.1.s rfl ?_
      rw [up2_s]
      refine x_aload_n (pc := 378) dX10_doesOf_378 rfl rfl ?_
      refine x_getr (pc := 379) dX10_doesOf_379 kf_RX10_101 h.1.s rfl h.1.f15 ?_
      refine x_iload_n (pc := 382) dX10_doesOf_382 rfl rfl ?_
      refine x_ialdn (pc := 383) (a := bi) dX10_doesOf_383 h.1.s15 (by omega) (by omega) ?_
      rw [up2_a (show M + 16 ≠ M by omega), hc bi hb]
      refine x_icmpn_ne (pc := 384) (tgt := 391) (a := (cPk nb ce true ta ta (ce bi) 4)) (b := (ce bi)) dX10_doesOf_384 (by decide) (by omega) (by omega) (fun c384 => ?_) (fun c384 => ?_)
      · skip
        refine x_iload (pc := 391) dX10_doesOf_391 rfl ?_
        refine x_ireturn (pc := 393) dX10_doesOf_393 ⟨_, rfl, rfl⟩ ⟨Nat.le_refl _, Nat.le_refl _⟩ ?_
        have hd : deedN nb ki ve ce sto hu ta te lo (lnO o) bi = (2, (cPk nb ce true ta ta (ce bi) 4)) := by
          rw [hdN]
          simp [deedF, yDeed, dCome, show isOne 0 1 = false from by decide, c25, c39, c384]
        exact fin 2 _ hd
      · skip
        refine x_iconst (pc := 387) (v := 0) dX10_doesOf_387 (by decide) ?_
        refine x_goto (pc := 388) (tgt := 393) dX10_doesOf_388 (by decide) ?_
        refine x_ireturn (pc := 393) dX10_doesOf_393 ⟨_, rfl, rfl⟩ ⟨Nat.le_refl _, Nat.le_refl _⟩ ?_
        have hd : deedN nb ki ve ce sto hu ta te lo (lnO o) bi = (0, (cPk nb ce true ta ta (ce bi) 4)) := by
          rw [hdN]
          simp [deedF, yDeed, dCome, show isOne 0 1 = false from by decide, c25, c39, c384]
        exact fin 0 _ hd

set_option maxHeartbeats 4000000 in
set_option maxRecDepth 100000 in
theorem m_doesOf_1 {T : xT} {n : Nat} {sh : Nat → Nat × Nat} {I : xI} {R : xR} {L : xL} {P : xPost} {M nb ta te lo : Nat} {ki ve ce sto hu : Nat → Nat} {o : Option xAR} {bi : Nat} (h : MS sh R I M nb ki ve ce sto hu ta te lo o) (hb : bi < nb) (hk : ki bi = 1) (K : ∀ I2 : xI, mdFr M I I2 → I2 M 37 = nI (deedN nb ki ve ce sto hu ta te lo (lnO o) bi).2 → P (n, sh, 0, 0) I2 R L (some (.int (nI (deedN nb ki ve ce sto hu ta te lo (lnO o) bi).1)))) : XM T zX10_doesOf 4 [.ref M, .int (nI bi)] n sh I R L P := by
  have hM0 := h.1
  refine x_aload_n (pc := 0) dX10_doesOf_0 rfl rfl ?_
  refine x_iload_n (pc := 1) dX10_doesOf_1 rfl rfl ?_
  refine x_callV (pc := 2) (As := [.int _]) dX10_doesOf_2 km_X10_layLines kv_X10_layLines kl_RX10_331 h.1.s rfl rfl (by decide) ⟨Nat.le_refl _, Nat.le_refl _⟩ rfl (Nat.le_of_ble_eq_true rfl) (Nat.le_of_ble_eq_true rfl) (m_layLines h hb (fun I2 g1 y2 c2 => ⟨rfl, rfl, ?_⟩))
  have h2 := h.keep g1
  obtain ⟨hM, hn6, hnb, hki, hve, hc, hsto, hhu, hbd, hta, ht, hte, hte2, hlo, hlo2, hln⟩ := id h2
  have hce : ∀ i, i < nb → ce i < 36 := fun i hi => (hbd i hi).2.2.1
  obtain ⟨hk7, hv10, hc36, hs36, hu10⟩ := hbd bi hb
  have hfl := far_lt hc36 ht
  have hfs := far_lt hc36 hs36
  have hyl : ylOf (lnAt (lnO o) nb ce hu te bi) lo < 200 := by unfold ylOf; have := mn_le (a := (lnAt (lnO o) nb ce hu te bi).1) (b := 9); omega
  have hcl : clOf (lnAt (lnO o) nb ce hu te bi) (ki bi) (ve bi) lo < 200 := by unfold clOf; have h1 : cm (mn (lnAt (lnO o) nb ce hu te bi).1 9) (lnAt (lnO o) nb ce hu te bi).2 ≤ 9 := (by unfold cm; split; omega; have := mn_le (a := (lnAt (lnO o) nb ce hu te bi).1) (b := 9); have := mn_le (a := (lnAt (lnO o) nb ce hu te bi).2) (b := mn (lnAt (lnO o) nb ce hu te bi).1 9 - 1); omega); split <;> omega
  obtain ⟨YV, hYV⟩ : ∃ z, z = ylOf (lnAt (lnO o) nb ce hu te bi) lo := ⟨_, rfl⟩
  obtain ⟨CV, hCV⟩ : ∃ z, z = clOf (lnAt (lnO o) nb ce hu te bi) (ki bi) (ve bi) lo := ⟨_, rfl⟩
  rw [← hYV] at y2 hyl
  rw [← hCV] at c2 hcl
  have hdN : deedN nb ki ve ce sto hu ta te lo (lnO o) bi = deedF nb ce 1 (ve bi) (sto bi) ta te YV CV (ce bi) := by unfold deedN; rw [hYV, hCV, hk]
  have hy36 : yPk nb ce ta (ce bi) 4 < 36 := pick_lt hc36 4
  have hq36 : cPk nb ce true ta ta (ce bi) 4 < 36 := pick_lt hc36 4
  have hs4 : cPk nb ce false ta (sto bi) (ce bi) 4 < 36 := pick_lt hc36 4
  refine x_aload_n (pc := 5) dX10_doesOf_5 rfl rfl ?_
  refine x_aload_n (pc := 6) dX10_doesOf_6 rfl rfl ?_
  refine x_getr (pc := 7) dX10_doesOf_7 kf_RX10_101 h.1.s rfl h.1.f15 ?_
  refine x_iload_n (pc := 10) dX10_doesOf_10 rfl rfl ?_
  refine x_ialdn (pc := 11) (a := bi) dX10_doesOf_11 h.1.s15 (by omega) (by omega) ?_
  rw [hc bi hb]
  refine x_aload_n (pc := 12) dX10_doesOf_12 rfl rfl ?_
  refine x_get (pc := 13) dX10_doesOf_13 kf_RX10_92 h.1.s rfl ?_
  rw [hta]
  refine x_callV (pc := 16) (As := [.int _, .int _]) dX10_doesOf_16 km_X10_far kv_X10_far kl_RX10_301 h.1.s rfl rfl (by decide) ⟨Nat.le_refl _, Nat.le_refl _⟩ rfl (Nat.le_of_ble_eq_true rfl) (Nat.le_of_ble_eq_true rfl) (m_far h.1.s hc36 ht (⟨rfl, rfl, ?_⟩))
  refine x_istore_n (pc := 19) (lv' := [(0, .ref M), (1, .int (nI bi)), (2, .int (nI (far (ce bi) ta)))]) dX10_doesOf_19 rfl (by decide) rfl ?_
  refine x_iload_n (pc := 20) dX10_doesOf_20 rfl rfl ?_
  refine x_aload_n (pc := 21) dX10_doesOf_21 rfl rfl ?_
  refine x_get (pc := 22) dX10_doesOf_22 kf_RX10_120 h.1.s rfl ?_
  rw [c2]
  refine x_icmpn_gt (pc := 25) (tgt := 32) (a := (far (ce bi) ta)) (b := CV) dX10_doesOf_25 (by decide) (by omega) (by omega) (fun c25 => ?_) (fun c25 => ?_)
  · skip
    refine x_iconst (pc := 32) (v := 0) dX10_doesOf_32 (by decide) ?_
    refine x_istore_n (pc := 33) (lv' := [(0, .ref M), (1, .int (nI bi)), (2, .int (nI (far (ce bi) ta))), (3, .int 0)]) dX10_doesOf_33 rfl (by decide) rfl ?_
    refine x_iload_n (pc := 34) dX10_doesOf_34 rfl rfl ?_
    refine x_aload_n (pc := 35) dX10_doesOf_35 rfl rfl ?_
    refine x_get (pc := 36) dX10_doesOf_36 kf_RX10_117 h.1.s rfl ?_
    rw [y2]
    refine x_icmpn_gt (pc := 39) (tgt := 46) (a := (far (ce bi) ta)) (b := YV) dX10_doesOf_39 (by decide) (by omega) (by omega) (fun c39 => ?_) (fun c39 => ?_)
    · skip
      refine x_iconst (pc := 46) (v := 0) dX10_doesOf_46 (by decide) ?_
      refine x_istore (pc := 47) (lv' := [(0, .ref M), (1, .int (nI bi)), (2, .int (nI (far (ce bi) ta))), (3, .int 0), (4, .int 0)]) dX10_doesOf_47 (by decide) rfl ?_
      refine x_aload_n (pc := 49) dX10_doesOf_49 rfl rfl ?_
      refine x_iload_n (pc := 50) dX10_doesOf_50 rfl rfl ?_
      refine x_aload_n (pc := 51) dX10_doesOf_51 rfl rfl ?_
      refine x_get (pc := 52) dX10_doesOf_52 kf_RX10_92 h.1.s rfl ?_
      rw [hta]
      refine x_iconst (pc := 55) (v := 0) dX10_doesOf_55 (by decide) ?_
      refine x_iconst (pc := 56) (v := 1) dX10_doesOf_56 (by decide) ?_
      refine x_callV (pc := 57) (As := [.int _, .int _, .int _, .int _]) dX10_doesOf_57 km_X10_nextBy kv_X10_nextBy kl_RX10_334 h.1.s rfl rfl (by decide) ⟨Nat.le_refl _, Nat.le_refl _⟩ rfl (Nat.le_of_ble_eq_true rfl) (Nat.le_of_ble_eq_true rfl) (m_nextBy_y h2 hb ht (⟨rfl, rfl, ?_⟩))
      rw [yPk2]
      refine x_istore (pc := 60) (lv' := [(0, .ref M), (1, .int (nI bi)), (2, .int (nI (far (ce bi) ta))), (3, .int 0), (4, .int 0), (5, .int (nI (yPk nb ce ta (ce bi) 4)))]) dX10_doesOf_60 (by decide) rfl ?_
      refine x_aload_n (pc := 62) dX10_doesOf_62 rfl rfl ?_
      refine x_iload_n (pc := 63) dX10_doesOf_63 rfl rfl ?_
      refine x_aload_n (pc := 64) dX10_doesOf_64 rfl rfl ?_
      refine x_get (pc := 65) dX10_doesOf_65 kf_RX10_92 h.1.s rfl ?_
      rw [hta]
      refine x_iconst (pc := 68) (v := 1) dX10_doesOf_68 (by decide) ?_
      refine x_iconst (pc := 69) (v := 0) dX10_doesOf_69 (by decide) ?_
      refine x_callV (pc := 70) (As := [.int _, .int _, .int _, .int _]) dX10_doesOf_70 km_X10_nextBy kv_X10_nextBy kl_RX10_334 h.1.s rfl rfl (by decide) ⟨Nat.le_refl _, Nat.le_refl _⟩ rfl (Nat.le_of_ble_eq_true rfl) (Nat.le_of_ble_eq_true rfl) (m_nextBy_c h2 hb ht (⟨rfl, rfl, ?_⟩))
      rw [show pick (cOk nb ce true ta) (cBet ta) (ce bi) 4 = cPk nb ce true ta ta (ce bi) 4 from rfl]
      refine x_istore (pc := 73) (lv' := [(0, .ref M), (1, .int (nI bi)), (2, .int (nI (far (ce bi) ta))), (3, .int 0), (4, .int 0), (5, .int (nI (yPk nb ce ta (ce bi) 4))), (6, .int (nI (cPk nb ce true ta ta (ce bi) 4)))]) dX10_doesOf_73 (by decide) rfl ?_
      refine x_aload_n (pc := 75) dX10_doesOf_75 rfl rfl ?_
      refine x_aload_n (pc := 76) dX10_doesOf_76 rfl rfl ?_
      refine x_getr (pc := 77) dX10_doesOf_77 kf_RX10_101 h.1.s rfl h.1.f15 ?_
      refine x_iload_n (pc := 80) dX10_doesOf_80 rfl rfl ?_
      refine x_ialdn (pc := 81) (a := bi) dX10_doesOf_81 h.1.s15 (by omega) (by omega) ?_
      rw [hc bi hb]
      refine x_put (pc := 82) dX10_doesOf_82 kf_RX10_123 h.1.s rfl (Or.inl kb_10_37) ?_
      have h3 := h2.keep (mdFr.fld (k := 37) (x := nI (ce bi)) (by omega))
      obtain ⟨hM, hn6, hnb, hki, hve, hc, hsto, hhu, hbd, hta, ht, hte, hte2, hlo, hlo2, hln⟩ := id h3
      have fin : ∀ d z, deedN nb ki ve ce sto hu ta te lo (lnO o) bi = (d, z) → P (n, sh, 0, 0) (up2 (up2 I2 M 37 (nI (ce bi))) M 37 (nI z)) R L (some (.int (nI d))) := fun d z e => by
        have h9 := K _ (g1.tr ((mdFr.fld (k := 37) (x := nI (ce bi)) (by omega)).tr (mdFr.fld (k := 37) (x := nI z) (by omega)))) (by rw [e]; exact up2_s)
        rw [e] at h9
        exact h9
      refine x_iload_n (pc := 85) dX10_doesOf_85 rfl rfl ?_
      refine x_if_eq_t (pc := 86) (tgt := 93) dX10_doesOf_86 (by decide) (by decide) ?_
      refine x_iload (pc := 93) dX10_doesOf_93 rfl ?_
      refine x_if_eq_t (pc := 95) (tgt := 102) dX10_doesOf_95 (by decide) (by decide) ?_
      refine x_iconst (pc := 102) (v := 0) dX10_doesOf_102 (by decide) ?_
      refine x_istore (pc := 103) (lv' := [(0, .ref M), (1, .int (nI bi)), (2, .int (nI (far (ce bi) ta))), (3, .int 0), (4, .int 0), (5, .int (nI (yPk nb ce ta (ce bi) 4))), (6, .int (nI (cPk nb ce true ta ta (ce bi) 4))), (7, .int 0)]) dX10_doesOf_103 (by decide) rfl ?_
      refine x_aload_n (pc := 105) dX10_doesOf_105 rfl rfl ?_
      refine x_getr (pc := 106) dX10_doesOf_106 kf_RX10_104 h.1.s rfl h.1.f16 ?_
      refine x_iload_n (pc := 109) dX10_doesOf_109 rfl rfl ?_
      refine x_ialdn (pc := 110) (a := bi) dX10_doesOf_110 h.1.s16 (by omega) (by omega) ?_
      rw [hki bi hb, hk, show nI 1 = 1 from rfl]
      refine x_tsw (pc := 111) (dt := 320) [(1, 148), (2, 320), (3, 167), (4, 201), (5, 235), (6, 283)] dX10_doesOf_111 (by decide +kernel) (by decide) ?_
      refine xsw_c (fun _ => ?_) (fun h => absurd rfl h)
      refine x_iload_n (pc := 148) dX10_doesOf_148 rfl rfl ?_
      refine x_if_ne_f (pc := 149) (tgt := 157) dX10_doesOf_149 (by decide) (by decide) ?_
      refine x_iload (pc := 152) dX10_doesOf_152 rfl ?_
      refine x_if_eq_t (pc := 154) (tgt := 161) dX10_doesOf_154 (by decide) (by decide) ?_
      refine x_iconst (pc := 161) (v := 0) dX10_doesOf_161 (by decide) ?_
      refine x_istore (pc := 162) (lv' := [(0, .ref M), (1, .int (nI bi)), (2, .int (nI (far (ce bi) ta))), (3, .int 0), (4, .int 0), (5, .int (nI (yPk nb ce ta (ce bi) 4))), (6, .int (nI (cPk nb ce true ta ta (ce bi) 4))), (7, .int 0)]) dX10_doesOf_162 (by decide) rfl ?_
      refine x_goto (pc := 164) (tgt := 320) dX10_doesOf_164 (by decide) ?_
      refine x_aload_n (pc := 320) dX10_doesOf_320 rfl rfl ?_
      refine x_iload (pc := 321) dX10_doesOf_321 rfl ?_
      refine x_iconst (pc := 323) (v := 1) dX10_doesOf_323 (by decide) ?_
      refine x_icmp_ne_t (pc := 324) (tgt := 332) dX10_doesOf_324 (by decide) (by decide) ?_
      refine x_iload (pc := 332) dX10_doesOf_332 rfl ?_
      refine x_iconst (pc := 334) (v := 2) dX10_doesOf_334 (by decide) ?_
      refine x_icmp_ne_t (pc := 335) (tgt := 343) dX10_doesOf_335 (by decide) (by decide) ?_
      refine x_iload (pc := 343) dX10_doesOf_343 rfl ?_
      refine x_iconst (pc := 345) (v := 3) dX10_doesOf_345 (by decide) ?_
      refine x_icmp_ne_t (pc := 346) (tgt := 365) dX10_doesOf_346 (by decide) (by decide) ?_
      refine x_aload_n (pc := 365) dX10_doesOf_365 rfl rfl ?_
      refine x_getr (pc := 366) dX10_doesOf_366 kf_RX10_101 h.1.s rfl h.1.f15 ?_
      refine x_iload_n (pc := 369) dX10_doesOf_369 rfl rfl ?_
      refine x_ialdn (pc := 370) (a := bi) dX10_doesOf_370 h.1.s15 (by omega) (by omega) ?_
      rw [hc bi hb]
      refine x_put (pc := 371) dX10_doesOf_371 kf_RX10_123 h.1.s rfl (Or.inl kb_10_37) ?_
      refine x_aload_n (pc := 374) dX10_doesOf_374 rfl rfl ?_
      refine x_get (pc := 375) dX10_doesOf_375 kf_RX10_123 h.1.s rfl ?_
      rw [up2_s]
      refine x_aload_n (pc := 378) dX10_doesOf_378 rfl rfl ?_
      refine x_getr (pc := 379) dX10_doesOf_379 kf_RX10_101 h.1.s rfl h.1.f15 ?_
      refine x_iload_n (pc := 382) dX10_doesOf_382 rfl rfl ?_
      refine x_ialdn (pc := 383) (a := bi) dX10_doesOf_383 h.1.s15 (by omega) (by omega) ?_
      rw [up2_a (show M + 16 ≠ M by omega), hc bi hb]
      refine x_icmp_ne_f (pc := 384) (tgt := 391) dX10_doesOf_384 (by decide) (rfl) ?_
      refine x_iconst (pc := 387) (v := 0) dX10_doesOf_387 (by decide) ?_
      refine x_goto (pc := 388) (tgt := 393) dX10_doesOf_388 (by decide) ?_
      refine x_ireturn (pc := 393) dX10_doesOf_393 ⟨_, rfl, rfl⟩ ⟨Nat.le_refl _, Nat.le_refl _⟩ ?_
      have hd : deedN nb ki ve ce sto hu ta te lo (lnO o) bi = (0, (ce bi)) := by
        rw [hdN]
        simp [deedF, yDeed, dCome, show isOne 1 1 = true from by decide, Nat.not_le.mpr c25, Nat.not_le.mpr c39]
      exact fin 0 _ hd
    · skip
      refine x_iconst (pc := 42) (v := 1) dX10_doesOf_42 (by decide) ?_
      refine x_goto (pc := 43) (tgt := 47) dX10_doesOf_43 (by decide) ?_
      refine x_istore (pc := 47) (lv' := [(0, .ref M), (1, .int (nI bi)), (2, .int (nI (far (ce bi) ta))), (3, .int 0), (4, .int 1)]) dX10_doesOf_47 (by decide) rfl ?_
      refine x_aload_n (pc := 49) dX10_doesOf_49 rfl rfl ?_
      refine x_iload_n (pc := 50) dX10_doesOf_50 rfl rfl ?_
      refine x_aload_n (pc := 51) dX10_doesOf_51 rfl rfl ?_
      refine x_get (pc := 52) dX10_doesOf_52 kf_RX10_92 h.1.s rfl ?_
      rw [hta]
      refine x_iconst (pc := 55) (v := 0) dX10_doesOf_55 (by decide) ?_
      refine x_iconst (pc := 56) (v := 1) dX10_doesOf_56 (by decide) ?_
      refine x_callV (pc := 57) (As := [.int _, .int _, .int _, .int _]) dX10_doesOf_57 km_X10_nextBy kv_X10_nextBy kl_RX10_334 h.1.s rfl rfl (by decide) ⟨Nat.le_refl _, Nat.le_refl _⟩ rfl (Nat.le_of_ble_eq_true rfl) (Nat.le_of_ble_eq_true rfl) (m_nextBy_y h2 hb ht (⟨rfl, rfl, ?_⟩))
      rw [yPk2]
      refine x_istore (pc := 60) (lv' := [(0, .ref M), (1, .int (nI bi)), (2, .int (nI (far (ce bi) ta))), (3, .int 0), (4, .int 1), (5, .int (nI (yPk nb ce ta (ce bi) 4)))]) dX10_doesOf_60 (by decide) rfl ?_
      refine x_aload_n (pc := 62) dX10_doesOf_62 rfl rfl ?_
      refine x_iload_n (pc := 63) dX10_doesOf_63 rfl rfl ?_
      refine x_aload_n (pc := 64) dX10_doesOf_64 rfl rfl ?_
      refine x_get (pc := 65) dX10_doesOf_65 kf_RX10_92 h.1.s rfl ?_
      rw [hta]
      refine x_iconst (pc := 68) (v := 1) dX10_doesOf_68 (by decide) ?_
      refine x_iconst (pc := 69) (v := 0) dX10_doesOf_69 (by decide) ?_
      refine x_callV (pc := 70) (As := [.int _, .int _, .int _, .int _]) dX10_doesOf_70 km_X10_nextBy kv_X10_nextBy kl_RX10_334 h.1.s rfl rfl (by decide) ⟨Nat.le_refl _, Nat.le_refl _⟩ rfl (Nat.le_of_ble_eq_true rfl) (Nat.le_of_ble_eq_true rfl) (m_nextBy_c h2 hb ht (⟨rfl, rfl, ?_⟩))
      rw [show pick (cOk nb ce true ta) (cBet ta) (ce bi) 4 = cPk nb ce true ta ta (ce bi) 4 from rfl]
      refine x_istore (pc := 73) (lv' := [(0, .ref M), (1, .int (nI bi)), (2, .int (nI (far (ce bi) ta))), (3, .int 0), (4, .int 1), (5, .int (nI (yPk nb ce ta (ce bi) 4))), (6, .int (nI (cPk nb ce true ta ta (ce bi) 4)))]) dX10_doesOf_73 (by decide) rfl ?_
      refine x_aload_n (pc := 75) dX10_doesOf_75 rfl rfl ?_
      refine x_aload_n (pc := 76) dX10_doesOf_76 rfl rfl ?_
      refine x_getr (pc := 77) dX10_doesOf_77 kf_RX10_101 h.1.s rfl h.1.f15 ?_
      refine x_iload_n (pc := 80) dX10_doesOf_80 rfl rfl ?_
      refine x_ialdn (pc := 81) (a := bi) dX10_doesOf_81 h.1.s15 (by omega) (by omega) ?_
      rw [hc bi hb]
      refine x_put (pc := 82) dX10_doesOf_82 kf_RX10_123 h.1.s rfl (Or.inl kb_10_37) ?_
      have h3 := h2.keep (mdFr.fld (k := 37) (x := nI (ce bi)) (by omega))
      obtain ⟨hM, hn6, hnb, hki, hve, hc, hsto, hhu, hbd, hta, ht, hte, hte2, hlo, hlo2, hln⟩ := id h3
      have fin : ∀ d z, deedN nb ki ve ce sto hu ta te lo (lnO o) bi = (d, z) → P (n, sh, 0, 0) (up2 (up2 I2 M 37 (nI (ce bi))) M 37 (nI z)) R L (some (.int (nI d))) := fun d z e => by
        have h9 := K _ (g1.tr ((mdFr.fld (k := 37) (x := nI (ce bi)) (by omega)).tr (mdFr.fld (k := 37) (x := nI z) (by omega)))) (by rw [e]; exact up2_s)
        rw [e] at h9
        exact h9
      refine x_iload_n (pc := 85) dX10_doesOf_85 rfl rfl ?_
      refine x_if_eq_t (pc := 86) (tgt := 93) dX10_doesOf_86 (by decide) (by decide) ?_
      refine x_iload (pc := 93) dX10_doesOf_93 rfl ?_
      refine x_if_eq_f (pc := 95) (tgt := 102) dX10_doesOf_95 (by decide) (by decide) ?_
      refine x_iconst (pc := 98) (v := 1) dX10_doesOf_98 (by decide) ?_
      refine x_goto (pc := 99) (tgt := 103) dX10_doesOf_99 (by decide) ?_
      refine x_istore (pc := 103) (lv' := [(0, .ref M), (1, .int (nI bi)), (2, .int (nI (far (ce bi) ta))), (3, .int 0), (4, .int 1), (5, .int (nI (yPk nb ce ta (ce bi) 4))), (6, .int (nI (cPk nb ce true ta ta (ce bi) 4))), (7, .int 1)]) dX10_doesOf_103 (by decide) rfl ?_
      refine x_aload_n (pc := 105) dX10_doesOf_105 rfl rfl ?_
      refine x_getr (pc := 106) dX10_doesOf_106 kf_RX10_104 h.1.s rfl h.1.f16 ?_
      refine x_iload_n (pc := 109) dX10_doesOf_109 rfl rfl ?_
      refine x_ialdn (pc := 110) (a := bi) dX10_doesOf_110 h.1.s16 (by omega) (by omega) ?_
      rw [hki bi hb, hk, show nI 1 = 1 from rfl]
      refine x_tsw (pc := 111) (dt := 320) [(1, 148), (2, 320), (3, 167), (4, 201), (5, 235), (6, 283)] dX10_doesOf_111 (by decide +kernel) (by decide) ?_
      refine xsw_c (fun _ => ?_) (fun h => absurd rfl h)
      refine x_iload_n (pc := 148) dX10_doesOf_148 rfl rfl ?_
      refine x_if_ne_f (pc := 149) (tgt := 157) dX10_doesOf_149 (by decide) (by decide) ?_
      refine x_iload (pc := 152) dX10_doesOf_152 rfl ?_
      refine x_if_eq_f (pc := 154) (tgt := 161) dX10_doesOf_154 (by decide) (by decide) ?_
      refine x_iconst (pc := 157) (v := 1) dX10_doesOf_157 (by decide) ?_
      refine x_goto (pc := 158) (tgt := 162) dX10_doesOf_158 (by decide) ?_
      refine x_istore (pc := 162) (lv' := [(0, .ref M), (1, .int (nI bi)), (2, .int (nI (far (ce bi) ta))), (3, .int 0), (4, .int 1), (5, .int (nI (yPk nb ce ta (ce bi) 4))), (6, .int (nI (cPk nb ce true ta ta (ce bi) 4))), (7, .int 1)]) dX10_doesOf_162 (by decide) rfl ?_
      refine x_goto (pc := 164) (tgt := 320) dX10_doesOf_164 (by decide) ?_
      refine x_aload_n (pc := 320) dX10_doesOf_320 rfl rfl ?_
      refine x_iload (pc := 321) dX10_doesOf_321 rfl ?_
      refine x_iconst (pc := 323) (v := 1) dX10_doesOf_323 (by decide) ?_
      refine x_icmp_ne_f (pc := 324) (tgt := 332) dX10_doesOf_324 (by decide) (by decide) ?_
      refine x_iload (pc := 327) dX10_doesOf_327 rfl ?_
      refine x_goto (pc := 329) (tgt := 371) dX10_doesOf_329 (by decide) ?_
      refine x_put (pc := 371) dX10_doesOf_371 kf_RX10_123 h.1.s rfl (Or.inl kb_10_37) ?_
      refine x_aload_n (pc := 374) dX10_doesOf_374 rfl rfl ?_
      refine x_get (pc := 375) dX10_doesOf_375 kf_RX10_123 h.1.s rfl ?_
      rw [up2_s]
      refine x_aload_n (pc := 378) dX10_doesOf_378 rfl rfl ?_
      refine x_getr (pc := 379) dX10_doesOf_379 kf_RX10_101 h.1.s rfl h.1.f15 ?_
      refine x_iload_n (pc := 382) dX10_doesOf_382 rfl rfl ?_
      refine x_ialdn (pc := 383) (a := bi) dX10_doesOf_383 h.1.s15 (by omega) (by omega) ?_
      rw [up2_a (show M + 16 ≠ M by omega), hc bi hb]
      refine x_icmpn_ne (pc := 384) (tgt := 391) (a := (yPk nb ce ta (ce bi) 4)) (b := (ce bi)) dX10_doesOf_384 (by decide) (by omega) (by omega) (fun c384 => ?_) (fun c384 => ?_)
      · skip
        refine x_iload (pc := 391) dX10_doesOf_391 rfl ?_
        refine x_ireturn (pc := 393) dX10_doesOf_393 ⟨_, rfl, rfl⟩ ⟨Nat.le_refl _, Nat.le_refl _⟩ ?_
        have hd : deedN nb ki ve ce sto hu ta te lo (lnO o) bi = (1, (yPk nb ce ta (ce bi) 4)) := by
          rw [hdN]
          simp [deedF, yDeed, dCome, show isOne 1 1 = true from by decide, Nat.not_le.mpr c25, c39, c384]
        exact fin 1 _ hd
      · skip
        refine x_iconst (pc := 387) (v := 0) dX10_doesOf_387 (by decide) ?_
        refine x_goto (pc := 388) (tgt := 393) dX10_doesOf_388 (by decide) ?_
        refine x_ireturn (pc := 393) dX10_doesOf_393 ⟨_, rfl, rfl⟩ ⟨Nat.le_refl _, Nat.le_refl _⟩ ?_
        have hd : deedN nb ki ve ce sto hu ta te lo (lnO o) bi = (0, (yPk nb ce ta (ce bi) 4)) := by
          rw [hdN]
          simp [deedF, yDeed, dCome, show isOne 1 1 = true from by decide, Nat.not_le.mpr c25, c39, c384]
        exact fin 0 _ hd
  · skip
    refine x_iconst (pc := 28) (v := 1) dX10_doesOf_28 (by decide) ?_
    refine x_goto (pc := 29) (tgt := 33) dX10_doesOf_29 (by decide) ?_
    refine x_istore_n (pc := 33) (lv' := [(0, .ref M), (1, .int (nI bi)), (2, .int (nI (far (ce bi) ta))), (3, .int 1)]) dX10_doesOf_33 rfl (by decide) rfl ?_
    refine x_iload_n (pc := 34) dX10_doesOf_34 rfl rfl ?_
    refine x_aload_n (pc := 35) dX10_doesOf_35 rfl rfl ?_
    refine x_get (pc := 36) dX10_doesOf_36 kf_RX10_117 h.1.s rfl ?_
    rw [y2]
    refine x_icmpn_gt (pc := 39) (tgt := 46) (a := (far (ce bi) ta)) (b := YV) dX10_doesOf_39 (by decide) (by omega) (by omega) (fun c39 => ?_) (fun c39 => ?_)
    · skip
      refine x_iconst (pc := 46) (v := 0) dX10_doesOf_46 (by decide) ?_
      refine x_istore (pc := 47) (lv' := [(0, .ref M), (1, .int (nI bi)), (2, .int (nI (far (ce bi) ta))), (3, .int 1), (4, .int 0)]) dX10_doesOf_47 (by decide) rfl ?_
      refine x_aload_n (pc := 49) dX10_doesOf_49 rfl rfl ?_
      refine x_iload_n (pc := 50) dX10_doesOf_50 rfl rfl ?_
      refine x_aload_n (pc := 51) dX10_doesOf_51 rfl rfl ?_
      refine x_get (pc := 52) dX10_doesOf_52 kf_RX10_92 h.1.s rfl ?_
      rw [hta]
      refine x_iconst (pc := 55) (v := 0) dX10_doesOf_55 (by decide) ?_
      refine x_iconst (pc := 56) (v := 1) dX10_doesOf_56 (by decide) ?_
      refine x_callV (pc := 57) (As := [.int _, .int _, .int _, .int _]) dX10_doesOf_57 km_X10_nextBy kv_X10_nextBy kl_RX10_334 h.1.s rfl rfl (by decide) ⟨Nat.le_refl _, Nat.le_refl _⟩ rfl (Nat.le_of_ble_eq_true rfl) (Nat.le_of_ble_eq_true rfl) (m_nextBy_y h2 hb ht (⟨rfl, rfl, ?_⟩))
      rw [yPk2]
      refine x_istore (pc := 60) (lv' := [(0, .ref M), (1, .int (nI bi)), (2, .int (nI (far (ce bi) ta))), (3, .int 1), (4, .int 0), (5, .int (nI (yPk nb ce ta (ce bi) 4)))]) dX10_doesOf_60 (by decide) rfl ?_
      refine x_aload_n (pc := 62) dX10_doesOf_62 rfl rfl ?_
      refine x_iload_n (pc := 63) dX10_doesOf_63 rfl rfl ?_
      refine x_aload_n (pc := 64) dX10_doesOf_64 rfl rfl ?_
      refine x_get (pc := 65) dX10_doesOf_65 kf_RX10_92 h.1.s rfl ?_
      rw [hta]
      refine x_iconst (pc := 68) (v := 1) dX10_doesOf_68 (by decide) ?_
      refine x_iconst (pc := 69) (v := 0) dX10_doesOf_69 (by decide) ?_
      refine x_callV (pc := 70) (As := [.int _, .int _, .int _, .int _]) dX10_doesOf_70 km_X10_nextBy kv_X10_nextBy kl_RX10_334 h.1.s rfl rfl (by decide) ⟨Nat.le_refl _, Nat.le_refl _⟩ rfl (Nat.le_of_ble_eq_true rfl) (Nat.le_of_ble_eq_true rfl) (m_nextBy_c h2 hb ht (⟨rfl, rfl, ?_⟩))
      rw [show pick (cOk nb ce true ta) (cBet ta) (ce bi) 4 = cPk nb ce true ta ta (ce bi) 4 from rfl]
      refine x_istore (pc := 73) (lv' := [(0, .ref M), (1, .int (nI bi)), (2, .int (nI (far (ce bi) ta))), (3, .int 1), (4, .int 0), (5, .int (nI (yPk nb ce ta (ce bi) 4))), (6, .int (nI (cPk nb ce true ta ta (ce bi) 4)))]) dX10_doesOf_73 (by decide) rfl ?_
      refine x_aload_n (pc := 75) dX10_doesOf_75 rfl rfl ?_
      refine x_aload_n (pc := 76) dX10_doesOf_76 rfl rfl ?_
      refine x_getr (pc := 77) dX10_doesOf_77 kf_RX10_101 h.1.s rfl h.1.f15 ?_
      refine x_iload_n (pc := 80) dX10_doesOf_80 rfl rfl ?_
      refine x_ialdn (pc := 81) (a := bi) dX10_doesOf_81 h.1.s15 (by omega) (by omega) ?_
      rw [hc bi hb]
      refine x_put (pc := 82) dX10_doesOf_82 kf_RX10_123 h.1.s rfl (Or.inl kb_10_37) ?_
      have h3 := h2.keep (mdFr.fld (k := 37) (x := nI (ce bi)) (by omega))
      obtain ⟨hM, hn6, hnb, hki, hve, hc, hsto, hhu, hbd, hta, ht, hte, hte2, hlo, hlo2, hln⟩ := id h3
      have fin : ∀ d z, deedN nb ki ve ce sto hu ta te lo (lnO o) bi = (d, z) → P (n, sh, 0, 0) (up2 (up2 I2 M 37 (nI (ce bi))) M 37 (nI z)) R L (some (.int (nI d))) := fun d z e => by
        have h9 := K _ (g1.tr ((mdFr.fld (k := 37) (x := nI (ce bi)) (by omega)).tr (mdFr.fld (k := 37) (x := nI z) (by omega)))) (by rw [e]; exact up2_s)
        rw [e] at h9
        exact h9
      refine x_iload_n (pc := 85) dX10_doesOf_85 rfl rfl ?_
      refine x_if_eq_f (pc := 86) (tgt := 93) dX10_doesOf_86 (by decide) (by decide) ?_
      refine x_iconst (pc := 89) (v := 2) dX10_doesOf_89 (by decide) ?_
      refine x_goto (pc := 90) (tgt := 103) dX10_doesOf_90 (by decide) ?_
      refine x_istore (pc := 103) (lv' := [(0, .ref M), (1, .int (nI bi)), (2, .int (nI (far (ce bi) ta))), (3, .int 1), (4, .int 0), (5, .int (nI (yPk nb ce ta (ce bi) 4))), (6, .int (nI (cPk nb ce true ta ta (ce bi) 4))), (7, .int 2)]) dX10_doesOf_103 (by decide) rfl ?_
      refine x_aload_n (pc := 105) dX10_doesOf_105 rfl rfl ?_
      refine x_getr (pc := 106) dX10_doesOf_106 kf_RX10_104 h.1.s rfl h.1.f16 ?_
      refine x_iload_n (pc := 109) dX10_doesOf_109 rfl rfl ?_
      refine x_ialdn (pc := 110) (a := bi) dX10_doesOf_110 h.1.s16 (by omega) (by omega) ?_
      rw [hki bi hb, hk, show nI 1 = 1 from rfl]
      refine x_tsw (pc := 111) (dt := 320) [(1, 148), (2, 320), (3, 167), (4, 201), (5, 235), (6, 283)] dX10_doesOf_111 (by decide +kernel) (by decide) ?_
      refine xsw_c (fun _ => ?_) (fun h => absurd rfl h)
      refine x_iload_n (pc := 148) dX10_doesOf_148 rfl rfl ?_
      refine x_if_ne_t (pc := 149) (tgt := 157) dX10_doesOf_149 (by decide) (by decide) ?_
      refine x_iconst (pc := 157) (v := 1) dX10_doesOf_157 (by decide) ?_
      refine x_goto (pc := 158) (tgt := 162) dX10_doesOf_158 (by decide) ?_
      refine x_istore (pc := 162) (lv' := [(0, .ref M), (1, .int (nI bi)), (2, .int (nI (far (ce bi) ta))), (3, .int 1), (4, .int 0), (5, .int (nI (yPk nb ce ta (ce bi) 4))), (6, .int (nI (cPk nb ce true ta ta (ce bi) 4))), (7, .int 1)]) dX10_doesOf_162 (by decide) rfl ?_
      refine x_goto (pc := 164) (tgt := 320) dX10_doesOf_164 (by decide) ?_
      refine x_aload_n (pc := 320) dX10_doesOf_320 rfl rfl ?_
      refine x_iload (pc := 321) dX10_doesOf_321 rfl ?_
      refine x_iconst (pc := 323) (v := 1) dX10_doesOf_323 (by decide) ?_
      refine x_icmp_ne_f (pc := 324) (tgt := 332) dX10_doesOf_324 (by decide) (by decide) ?_
      refine x_iload (pc := 327) dX10_doesOf_327 rfl ?_
      refine x_goto (pc := 329) (tgt := 371) dX10_doesOf_329 (by decide) ?_
      refine x_put (pc := 371) dX10_doesOf_371 kf_RX10_123 h.1.s rfl (Or.inl kb_10_37) ?_
      refine x_aload_n (pc := 374) dX10_doesOf_374 rfl rfl ?_
      refine x_get (pc := 375) dX10_doesOf_375 kf_RX10_123 h.1.s rfl ?_
      rw [up2_s]
      refine x_aload_n (pc := 378) dX10_doesOf_378 rfl rfl ?_
      refine x_getr (pc := 379) dX10_doesOf_379 kf_RX10_101 h.1.s rfl h.1.f15 ?_
      refine x_iload_n (pc := 382) dX10_doesOf_382 rfl rfl ?_
      refine x_ialdn (pc := 383) (a := bi) dX10_doesOf_383 h.1.s15 (by omega) (by omega) ?_
      rw [up2_a (show M + 16 ≠ M by omega), hc bi hb]
      refine x_icmpn_ne (pc := 384) (tgt := 391) (a := (yPk nb ce ta (ce bi) 4)) (b := (ce bi)) dX10_doesOf_384 (by decide) (by omega) (by omega) (fun c384 => ?_) (fun c384 => ?_)
      · skip
        refine x_iload (pc := 391) dX10_doesOf_391 rfl ?_
        refine x_ireturn (pc := 393) dX10_doesOf_393 ⟨_, rfl, rfl⟩ ⟨Nat.le_refl _, Nat.le_refl _⟩ ?_
        have hd : deedN nb ki ve ce sto hu ta te lo (lnO o) bi = (1, (yPk nb ce ta (ce bi) 4)) := by
          rw [hdN]
          simp [deedF, yDeed, dCome, show isOne 1 1 = true from by decide, c25, Nat.not_le.mpr c39, c384]
        exact fin 1 _ hd
      · skip
        refine x_iconst (pc := 387) (v := 0) dX10_doesOf_387 (by decide) ?_
        refine x_goto (pc := 388) (tgt := 393) dX10_doesOf_388 (by decide) ?_
        refine x_ireturn (pc := 393) dX10_doesOf_393 ⟨_, rfl, rfl⟩ ⟨Nat.le_refl _, Nat.le_refl _⟩ ?_
        have hd : deedN nb ki ve ce sto hu ta te lo (lnO o) bi = (0, (yPk nb ce ta (ce bi) 4)) := by
          rw [hdN]
          simp [deedF, yDeed, dCome, show isOne 1 1 = true from by decide, c25, Nat.not_le.mpr c39, c384]
        exact fin 0 _ hd
    · skip
      refine x_iconst (pc := 42) (v := 1) dX10_doesOf_42 (by decide) ?_
      refine x_goto (pc := 43) (tgt := 47) dX10_doesOf_43 (by decide) ?_
      refine x_istore (pc := 47) (lv' := [(0, .ref M), (1, .int (nI bi)), (2, .int (nI (far (ce bi) ta))), (3, .int 1), (4, .int 1)]) dX10_doesOf_47 (by decide) rfl ?_
      refine x_aload_n (pc := 49) dX10_doesOf_49 rfl rfl ?_
      refine x_iload_n (pc := 50) dX10_doesOf_50 rfl rfl ?_
      refine x_aload_n (pc := 51) dX10_doesOf_51 rfl rfl ?_
      refine x_get (pc := 52) dX10_doesOf_52 kf_RX10_92 h.1.s rfl ?_
      rw [hta]
      refine x_iconst (pc := 55) (v := 0) dX10_doesOf_55 (by decide) ?_
      refine x_iconst (pc := 56) (v := 1) dX10_doesOf_56 (by decide) ?_
      refine x_callV (pc := 57) (As := [.int _, .int _, .int _, .int _]) dX10_doesOf_57 km_X10_nextBy kv_X10_nextBy kl_RX10_334 h.1.s rfl rfl (by decide) ⟨Nat.le_refl _, Nat.le_refl _⟩ rfl (Nat.le_of_ble_eq_true rfl) (Nat.le_of_ble_eq_true rfl) (m_nextBy_y h2 hb ht (⟨rfl, rfl, ?_⟩))
      rw [yPk2]
      refine x_istore (pc := 60) (lv' := [(0, .ref M), (1, .int (nI bi)), (2, .int (nI (far (ce bi) ta))), (3, .int 1), (4, .int 1), (5, .int (nI (yPk nb ce ta (ce bi) 4)))]) dX10_doesOf_60 (by decide) rfl ?_
      refine x_aload_n (pc := 62) dX10_doesOf_62 rfl rfl ?_
      refine x_iload_n (pc := 63) dX10_doesOf_63 rfl rfl ?_
      refine x_aload_n (pc := 64) dX10_doesOf_64 rfl rfl ?_
      refine x_get (pc := 65) dX10_doesOf_65 kf_RX10_92 h.1.s rfl ?_
      rw [hta]
      refine x_iconst (pc := 68) (v := 1) dX10_doesOf_68 (by decide) ?_
      refine x_iconst (pc := 69) (v := 0) dX10_doesOf_69 (by decide) ?_
      refine x_callV (pc := 70) (As := [.int _, .int _, .int _, .int _]) dX10_doesOf_70 km_X10_nextBy kv_X10_nextBy kl_RX10_334 h.1.s rfl rfl (by decide) ⟨Nat.le_refl _, Nat.le_refl _⟩ rfl (Nat.le_of_ble_eq_true rfl) (Nat.le_of_ble_eq_true rfl) (m_nextBy_c h2 hb ht (⟨rfl, rfl, ?_⟩))
      rw [show pick (cOk nb ce true ta) (cBet ta) (ce bi) 4 = cPk nb ce true ta ta (ce bi) 4 from rfl]
      refine x_istore (pc := 73) (lv' := [(0, .ref M), (1, .int (nI bi)), (2, .int (nI (far (ce bi) ta))), (3, .int 1), (4, .int 1), (5, .int (nI (yPk nb ce ta (ce bi) 4))), (6, .int (nI (cPk nb ce true ta ta (ce bi) 4)))]) dX10_doesOf_73 (by decide) rfl ?_
      refine x_aload_n (pc := 75) dX10_doesOf_75 rfl rfl ?_
      refine x_aload_n (pc := 76) dX10_doesOf_76 rfl rfl ?_
      refine x_getr (pc := 77) dX10_doesOf_77 kf_RX10_101 h.1.s rfl h.1.f15 ?_
      refine x_iload_n (pc := 80) dX10_doesOf_80 rfl rfl ?_
      refine x_ialdn (pc := 81) (a := bi) dX10_doesOf_81 h.1.s15 (by omega) (by omega) ?_
      rw [hc bi hb]
      refine x_put (pc := 82) dX10_doesOf_82 kf_RX10_123 h.1.s rfl (Or.inl kb_10_37) ?_
      have h3 := h2.keep (mdFr.fld (k := 37) (x := nI (ce bi)) (by omega))
      obtain ⟨hM, hn6, hnb, hki, hve, hc, hsto, hhu, hbd, hta, ht, hte, hte2, hlo, hlo2, hln⟩ := id h3
      have fin : ∀ d z, deedN nb ki ve ce sto hu ta te lo (lnO o) bi = (d, z) → P (n, sh, 0, 0) (up2 (up2 I2 M 37 (nI (ce bi))) M 37 (nI z)) R L (some (.int (nI d))) := fun d z e => by
        have h9 := K _ (g1.tr ((mdFr.fld (k := 37) (x := nI (ce bi)) (by omega)).tr (mdFr.fld (k := 37) (x := nI z) (by omega)))) (by rw [e]; exact up2_s)
        rw [e] at h9
        exact h9
      refine x_iload_n (pc := 85) dX10_doesOf_85 rfl rfl ?_
      refine x_if_eq_f (pc := 86) (tgt := 93) dX10_doesOf_86 (by decide) (by decide) ?_
      refine x_iconst (pc := 89) (v := 2) dX10_doesOf_89 (by decide) ?_
      refine x_goto (pc := 90) (tgt := 103) dX10_doesOf_90 (by decide) ?_
      refine x_istore (pc := 103) (lv' := [(0, .ref M), (1, .int (nI bi)), (2, .int (nI (far (ce bi) ta))), (3, .int 1), (4, .int 1), (5, .int (nI (yPk nb ce ta (ce bi) 4))), (6, .int (nI (cPk nb ce true ta ta (ce bi) 4))), (7, .int 2)]) dX10_doesOf_103 (by decide) rfl ?_
      refine x_aload_n (pc := 105) dX10_doesOf_105 rfl rfl ?_
      refine x_getr (pc := 106) dX10_doesOf_106 kf_RX10_104 h.1.s rfl h.1.f16 ?_
      refine x_iload_n (pc := 109) dX10_doesOf_109 rfl rfl ?_
      refine x_ialdn (pc := 110) (a := bi) dX10_doesOf_110 h.1.s16 (by omega) (by omega) ?_
      rw [hki bi hb, hk, show nI 1 = 1 from rfl]
      refine x_tsw (pc := 111) (dt := 320) [(1, 148), (2, 320), (3, 167), (4, 201), (5, 235), (6, 283)] dX10_doesOf_111 (by decide +kernel) (by decide) ?_
      refine xsw_c (fun _ => ?_) (fun h => absurd rfl h)
      refine x_iload_n (pc := 148) dX10_doesOf_148 rfl rfl ?_
      refine x_if_ne_t (pc := 149) (tgt := 157) dX10_doesOf_149 (by decide) (by decide) ?_
      refine x_iconst (pc := 157) (v := 1) dX10_doesOf_157 (by decide) ?_
      refine x_goto (pc := 158) (tgt := 162) dX10_doesOf_158 (by decide) ?_
      refine x_istore (pc := 162) (lv' := [(0, .ref M), (1, .int (nI bi)), (2, .int (nI (far (ce bi) ta))), (3, .int 1), (4, .int 1), (5, .int (nI (yPk nb ce ta (ce bi) 4))), (6, .int (nI (cPk nb ce true ta ta (ce bi) 4))), (7, .int 1)]) dX10_doesOf_162 (by decide) rfl ?_
      refine x_goto (pc := 164) (tgt := 320) dX10_doesOf_164 (by decide) ?_
      refine x_aload_n (pc := 320) dX10_doesOf_320 rfl rfl ?_
      refine x_iload (pc := 321) dX10_doesOf_321 rfl ?_
      refine x_iconst (pc := 323) (v := 1) dX10_doesOf_323 (by decide) ?_
      refine x_icmp_ne_f (pc := 324) (tgt := 332) dX10_doesOf_324 (by decide) (by decide) ?_
      refine x_iload (pc := 327) dX10_doesOf_327 rfl ?_
      refine x_goto (pc := 329) (tgt := 371) dX10_doesOf_329 (by decide) ?_
      refine x_put (pc := 371) dX10_doesOf_371 kf_RX10_123 h.1.s rfl (Or.inl kb_10_37) ?_
      refine x_aload_n (pc := 374) dX10_doesOf_374 rfl rfl ?_
      refine x_get (pc := 375) dX10_doesOf_375 kf_RX10_123 h.1.s rfl ?_
      rw [up2_s]
      refine x_aload_n (pc := 378) dX10_doesOf_378 rfl rfl ?_
      refine x_getr (pc := 379) dX10_doesOf_379 kf_RX10_101 h.1.s rfl h.1.f15 ?_
      refine x_iload_n (pc := 382) dX10_doesOf_382 rfl rfl ?_
      refine x_ialdn (pc := 383) (a := bi) dX10_doesOf_383 h.1.s15 (by omega) (by omega) ?_
      rw [up2_a (show M + 16 ≠ M by omega), hc bi hb]
      refine x_icmpn_ne (pc := 384) (tgt := 391) (a := (yPk nb ce ta (ce bi) 4)) (b := (ce bi)) dX10_doesOf_384 (by decide) (by omega) (by omega) (fun c384 => ?_) (fun c384 => ?_)
      · skip
        refine x_iload (pc := 391) dX10_doesOf_391 rfl ?_
        refine x_ireturn (pc := 393) dX10_doesOf_393 ⟨_, rfl, rfl⟩ ⟨Nat.le_refl _, Nat.le_refl _⟩ ?_
        have hd : deedN nb ki ve ce sto hu ta te lo (lnO o) bi = (1, (yPk nb ce ta (ce bi) 4)) := by
          rw [hdN]
          simp [deedF, yDeed, dCome, show isOne 1 1 = true from by decide, c25, c39, c384]
        exact fin 1 _ hd
      · skip
        refine x_iconst (pc := 387) (v := 0) dX10_doesOf_387 (by decide) ?_
        refine x_goto (pc := 388) (tgt := 393) dX10_doesOf_388 (by decide) ?_
        refine x_ireturn (pc := 393) dX10_doesOf_393 ⟨_, rfl, rfl⟩ ⟨Nat.le_refl _, Nat.le_refl _⟩ ?_
        have hd : deedN nb ki ve ce sto hu ta te lo (lnO o) bi = (0, (yPk nb ce ta (ce bi) 4)) := by
          rw [hdN]
          simp [deedF, yDeed, dCome, show isOne 1 1 = true from by decide, c25, c39, c384]
        exact fin 0 _ hd

set_option maxHeartbeats 4000000 in
set_option maxRecDepth 100000 in
theorem m_doesOf_2 {T : xT} {n : Nat} {sh : Nat → Nat × Nat} {I : xI} {R : xR} {L : xL} {P : xPost} {M nb ta te lo : Nat} {ki ve ce sto hu : Nat → Nat} {o : Option xAR} {bi : Nat} (h : MS sh R I M nb ki ve ce sto hu ta te lo o) (hb : bi < nb) (hk : ki bi = 2) (K : ∀ I2 : xI, mdFr M I I2 → I2 M 37 = nI (deedN nb ki ve ce sto hu ta te lo (lnO o) bi).2 → P (n, sh, 0, 0) I2 R L (some (.int (nI (deedN nb ki ve ce sto hu ta te lo (lnO o) bi).1)))) : XM T zX10_doesOf 4 [.ref M, .int (nI bi)] n sh I R L P := by
  have hM0 := h.1
  refine x_aload_n (pc := 0) dX10_doesOf_0 rfl rfl ?_
  refine x_iload_n (pc := 1) dX10_doesOf_1 rfl rfl ?_
  refine x_callV (pc := 2) (As := [.int _]) dX10_doesOf_2 km_X10_layLines kv_X10_layLines kl_RX10_331 h.1.s rfl rfl (by decide) ⟨Nat.le_refl _, Nat.le_refl _⟩ rfl (Nat.le_of_ble_eq_true rfl) (Nat.le_of_ble_eq_true rfl) (m_layLines h hb (fun I2 g1 y2 c2 => ⟨rfl, rfl, ?_⟩))
  have h2 := h.keep g1
  obtain ⟨hM, hn6, hnb, hki, hve, hc, hsto, hhu, hbd, hta, ht, hte, hte2, hlo, hlo2, hln⟩ := id h2
  have hce : ∀ i, i < nb → ce i < 36 := fun i hi => (hbd i hi).2.2.1
  obtain ⟨hk7, hv10, hc36, hs36, hu10⟩ := hbd bi hb
  have hfl := far_lt hc36 ht
  have hfs := far_lt hc36 hs36
  have hyl : ylOf (lnAt (lnO o) nb ce hu te bi) lo < 200 := by unfold ylOf; have := mn_le (a := (lnAt (lnO o) nb ce hu te bi).1) (b := 9); omega
  have hcl : clOf (lnAt (lnO o) nb ce hu te bi) (ki bi) (ve bi) lo < 200 := by unfold clOf; have h1 : cm (mn (lnAt (lnO o) nb ce hu te bi).1 9) (lnAt (lnO o) nb ce hu te bi).2 ≤ 9 := (by unfold cm; split; omega; have := mn_le (a := (lnAt (lnO o) nb ce hu te bi).1) (b := 9); have := mn_le (a := (lnAt (lnO o) nb ce hu te bi).2) (b := mn (lnAt (lnO o) nb ce hu te bi).1 9 - 1); omega); split <;> omega
  obtain ⟨YV, hYV⟩ : ∃ z, z = ylOf (lnAt (lnO o) nb ce hu te bi) lo := ⟨_, rfl⟩
  obtain ⟨CV, hCV⟩ : ∃ z, z = clOf (lnAt (lnO o) nb ce hu te bi) (ki bi) (ve bi) lo := ⟨_, rfl⟩
  rw [← hYV] at y2 hyl
  rw [← hCV] at c2 hcl
  have hdN : deedN nb ki ve ce sto hu ta te lo (lnO o) bi = deedF nb ce 2 (ve bi) (sto bi) ta te YV CV (ce bi) := by unfold deedN; rw [hYV, hCV, hk]
  have hy36 : yPk nb ce ta (ce bi) 4 < 36 := pick_lt hc36 4
  have hq36 : cPk nb ce true ta ta (ce bi) 4 < 36 := pick_lt hc36 4
  have hs4 : cPk nb ce false ta (sto bi) (ce bi) 4 < 36 := pick_lt hc36 4
  refine x_aload_n (pc := 5) dX10_doesOf_5 rfl rfl ?_
  refine x_aload_n (pc := 6) dX10_doesOf_6 rfl rfl ?_
  refine x_getr (pc := 7) dX10_doesOf_7 kf_RX10_101 h.1.s rfl h.1.f15 ?_
  refine x_iload_n (pc := 10) dX10_doesOf_10 rfl rfl ?_
  refine x_ialdn (pc := 11) (a := bi) dX10_doesOf_11 h.1.s15 (by omega) (by omega) ?_
  rw [hc bi hb]
  refine x_aload_n (pc := 12) dX10_doesOf_12 rfl rfl ?_
  refine x_get (pc := 13) dX10_doesOf_13 kf_RX10_92 h.1.s rfl ?_
  rw [hta]
  refine x_callV (pc := 16) (As := [.int _, .int _]) dX10_doesOf_16 km_X10_far kv_X10_far kl_RX10_301 h.1.s rfl rfl (by decide) ⟨Nat.le_refl _, Nat.le_refl _⟩ rfl (Nat.le_of_ble_eq_true rfl) (Nat.le_of_ble_eq_true rfl) (m_far h.1.s hc36 ht (⟨rfl, rfl, ?_⟩))
  refine x_istore_n (pc := 19) (lv' := [(0, .ref M), (1, .int (nI bi)), (2, .int (nI (far (ce bi) ta)))]) dX10_doesOf_19 rfl (by decide) rfl ?_
  refine x_iload_n (pc := 20) dX10_doesOf_20 rfl rfl ?_
  refine x_aload_n (pc := 21) dX10_doesOf_21 rfl rfl ?_
  refine x_get (pc := 22) dX10_doesOf_22 kf_RX10_120 h.1.s rfl ?_
  rw [c2]
  refine x_icmpn_gt (pc := 25) (tgt := 32) (a := (far (ce bi) ta)) (b := CV) dX10_doesOf_25 (by decide) (by omega) (by omega) (fun c25 => ?_) (fun c25 => ?_)
  · skip
    refine x_iconst (pc := 32) (v := 0) dX10_doesOf_32 (by decide) ?_
    refine x_istore_n (pc := 33) (lv' := [(0, .ref M), (1, .int (nI bi)), (2, .int (nI (far (ce bi) ta))), (3, .int 0)]) dX10_doesOf_33 rfl (by decide) rfl ?_
    refine x_iload_n (pc := 34) dX10_doesOf_34 rfl rfl ?_
    refine x_aload_n (pc := 35) dX10_doesOf_35 rfl rfl ?_
    refine x_get (pc := 36) dX10_doesOf_36 kf_RX10_117 h.1.s rfl ?_
    rw [y2]
    refine x_icmpn_gt (pc := 39) (tgt := 46) (a := (far (ce bi) ta)) (b := YV) dX10_doesOf_39 (by decide) (by omega) (by omega) (fun c39 => ?_) (fun c39 => ?_)
    · skip
      refine x_iconst (pc := 46) (v := 0) dX10_doesOf_46 (by decide) ?_
      refine x_istore (pc := 47) (lv' := [(0, .ref M), (1, .int (nI bi)), (2, .int (nI (far (ce bi) ta))), (3, .int 0), (4, .int 0)]) dX10_doesOf_47 (by decide) rfl ?_
      refine x_aload_n (pc := 49) dX10_doesOf_49 rfl rfl ?_
      refine x_iload_n (pc := 50) dX10_doesOf_50 rfl rfl ?_
      refine x_aload_n (pc := 51) dX10_doesOf_51 rfl rfl ?_
      refine x_get (pc := 52) dX10_doesOf_52 kf_RX10_92 h.1.s rfl ?_
      rw [hta]
      refine x_iconst (pc := 55) (v := 0) dX10_doesOf_55 (by decide) ?_
      refine x_iconst (pc := 56) (v := 1) dX10_doesOf_56 (by decide) ?_
      refine x_callV (pc := 57) (As := [.int _, .int _, .int _, .int _]) dX10_doesOf_57 km_X10_nextBy kv_X10_nextBy kl_RX10_334 h.1.s rfl rfl (by decide) ⟨Nat.le_refl _, Nat.le_refl _⟩ rfl (Nat.le_of_ble_eq_true rfl) (Nat.le_of_ble_eq_true rfl) (m_nextBy_y h2 hb ht (⟨rfl, rfl, ?_⟩))
      rw [yPk2]
      refine x_istore (pc := 60) (lv' := [(0, .ref M), (1, .int (nI bi)), (2, .int (nI (far (ce bi) ta))), (3, .int 0), (4, .int 0), (5, .int (nI (yPk nb ce ta (ce bi) 4)))]) dX10_doesOf_60 (by decide) rfl ?_
      refine x_aload_n (pc := 62) dX10_doesOf_62 rfl rfl ?_
      refine x_iload_n (pc := 63) dX10_doesOf_63 rfl rfl ?_
      refine x_aload_n (pc := 64) dX10_doesOf_64 rfl rfl ?_
      refine x_get (pc := 65) dX10_doesOf_65 kf_RX10_92 h.1.s rfl ?_
      rw [hta]
      refine x_iconst (pc := 68) (v := 1) dX10_doesOf_68 (by decide) ?_
      refine x_iconst (pc := 69) (v := 0) dX10_doesOf_69 (by decide) ?_
      refine x_callV (pc := 70) (As := [.int _, .int _, .int _, .int _]) dX10_doesOf_70 km_X10_nextBy kv_X10_nextBy kl_RX10_334 h.1.s rfl rfl (by decide) ⟨Nat.le_refl _, Nat.le_refl _⟩ rfl (Nat.le_of_ble_eq_true rfl) (Nat.le_of_ble_eq_true rfl) (m_nextBy_c h2 hb ht (⟨rfl, rfl, ?_⟩))
      rw [show pick (cOk nb ce true ta) (cBet ta) (ce bi) 4 = cPk nb ce true ta ta (ce bi) 4 from rfl]
      refine x_istore (pc := 73) (lv' := [(0, .ref M), (1, .int (nI bi)), (2, .int (nI (far (ce bi) ta))), (3, .int 0), (4, .int 0), (5, .int (nI (yPk nb ce ta (ce bi) 4))), (6, .int (nI (cPk nb ce true ta ta (ce bi) 4)))]) dX10_doesOf_73 (by decide) rfl ?_
      refine x_aload_n (pc := 75) dX10_doesOf_75 rfl rfl ?_
      refine x_aload_n (pc := 76) dX10_doesOf_76 rfl rfl ?_
      refine x_getr (pc := 77) dX10_doesOf_77 kf_RX10_101 h.1.s rfl h.1.f15 ?_
      refine x_iload_n (pc := 80) dX10_doesOf_80 rfl rfl ?_
      refine x_ialdn (pc := 81) (a := bi) dX10_doesOf_81 h.1.s15 (by omega) (by omega) ?_
      rw [hc bi hb]
      refine x_put (pc := 82) dX10_doesOf_82 kf_RX10_123 h.1.s rfl (Or.inl kb_10_37) ?_
      have h3 := h2.keep (mdFr.fld (k := 37) (x := nI (ce bi)) (by omega))
      obtain ⟨hM, hn6, hnb, hki, hve, hc, hsto, hhu, hbd, hta, ht, hte, hte2, hlo, hlo2, hln⟩ := id h3
      have fin : ∀ d z, deedN nb ki ve ce sto hu ta te lo (lnO o) bi = (d, z) → P (n, sh, 0, 0) (up2 (up2 I2 M 37 (nI (ce bi))) M 37 (nI z)) R L (some (.int (nI d))) := fun d z e => by
        have h9 := K _ (g1.tr ((mdFr.fld (k := 37) (x := nI (ce bi)) (by omega)).tr (mdFr.fld (k := 37) (x := nI z) (by omega)))) (by rw [e]; exact up2_s)
        rw [e] at h9
        exact h9
      refine x_iload_n (pc := 85) dX10_doesOf_85 rfl rfl ?_
      refine x_if_eq_t (pc := 86) (tgt := 93) dX10_doesOf_86 (by decide) (by decide) ?_
      refine x_iload (pc := 93) dX10_doesOf_93 rfl ?_
      refine x_if_eq_t (pc := 95) (tgt := 102) dX10_doesOf_95 (by decide) (by decide) ?_
      refine x_iconst (pc := 102) (v := 0) dX10_doesOf_102 (by decide) ?_
      refine x_istore (pc := 103) (lv' := [(0, .ref M), (1, .int (nI bi)), (2, .int (nI (far (ce bi) ta))), (3, .int 0), (4, .int 0), (5, .int (nI (yPk nb ce ta (ce bi) 4))), (6, .int (nI (cPk nb ce true ta ta (ce bi) 4))), (7, .int 0)]) dX10_doesOf_103 (by decide) rfl ?_
      refine x_aload_n (pc := 105) dX10_doesOf_105 rfl rfl ?_
      refine x_getr (pc := 106) dX10_doesOf_106 kf_RX10_104 h.1.s rfl h.1.f16 ?_
      refine x_iload_n (pc := 109) dX10_doesOf_109 rfl rfl ?_
      refine x_ialdn (pc := 110) (a := bi) dX10_doesOf_110 h.1.s16 (by omega) (by omega) ?_
      rw [hki bi hb, hk, show nI 2 = 2 from rfl]
      refine x_tsw (pc := 111) (dt := 320) [(1, 148), (2, 320), (3, 167), (4, 201), (5, 235), (6, 283)] dX10_doesOf_111 (by decide +kernel) (by decide) ?_
      refine xsw_c (fun h => absurd h (by decide)) (fun _ => ?_)
      refine xsw_c (fun _ => ?_) (fun h => absurd rfl h)
      refine x_aload_n (pc := 320) dX10_doesOf_320 rfl rfl ?_
      refine x_iload (pc := 321) dX10_doesOf_321 rfl ?_
      refine x_iconst (pc := 323) (v := 1) dX10_doesOf_323 (by decide) ?_
      refine x_icmp_ne_t (pc := 324) (tgt := 332) dX10_doesOf_324 (by decide) (by decide) ?_
      refine x_iload (pc := 332) dX10_doesOf_332 rfl ?_
      refine x_iconst (pc := 334) (v := 2) dX10_doesOf_334 (by decide) ?_
      refine x_icmp_ne_t (pc := 335) (tgt := 343) dX10_doesOf_335 (by decide) (by decide) ?_
      refine x_iload (pc := 343) dX10_doesOf_343 rfl ?_
      refine x_iconst (pc := 345) (v := 3) dX10_doesOf_345 (by decide) ?_
      refine x_icmp_ne_t (pc := 346) (tgt := 365) dX10_doesOf_346 (by decide) (by decide) ?_
      refine x_aload_n (pc := 365) dX10_doesOf_365 rfl rfl ?_
      refine x_getr (pc := 366) dX10_doesOf_366 kf_RX10_101 h.1.s rfl h.1.f15 ?_
      refine x_iload_n (pc := 369) dX10_doesOf_369 rfl rfl ?_
      refine x_ialdn (pc := 370) (a := bi) dX10_doesOf_370 h.1.s15 (by omega) (by omega) ?_
      rw [hc bi hb]
      refine x_put (pc := 371) dX10_doesOf_371 kf_RX10_123 h.1.s rfl (Or.inl kb_10_37) ?_
      refine x_aload_n (pc := 374) dX10_doesOf_374 rfl rfl ?_
      refine x_get (pc := 375) dX10_doesOf_375 kf_RX10_123 h.1.s rfl ?_
      rw [up2_s]
      refine x_aload_n (pc := 378) dX10_doesOf_378 rfl rfl ?_
      refine x_getr (pc := 379) dX10_doesOf_379 kf_RX10_101 h.1.s rfl h.1.f15 ?_
      refine x_iload_n (pc := 382) dX10_doesOf_382 rfl rfl ?_
      refine x_ialdn (pc := 383) (a := bi) dX10_doesOf_383 h.1.s15 (by omega) (by omega) ?_
      rw [up2_a (show M + 16 ≠ M by omega), hc bi hb]
      refine x_icmp_ne_f (pc := 384) (tgt := 391) dX10_doesOf_384 (by decide) (rfl) ?_
      refine x_iconst (pc := 387) (v := 0) dX10_doesOf_387 (by decide) ?_
      refine x_goto (pc := 388) (tgt := 393) dX10_doesOf_388 (by decide) ?_
      refine x_ireturn (pc := 393) dX10_doesOf_393 ⟨_, rfl, rfl⟩ ⟨Nat.le_refl _, Nat.le_refl _⟩ ?_
      have hd : deedN nb ki ve ce sto hu ta te lo (lnO o) bi = (0, (ce bi)) := by
        rw [hdN]
        simp [deedF, yDeed, dCome, show isOne 2 1 = false from by decide, Nat.not_le.mpr c25, Nat.not_le.mpr c39]
      exact fin 0 _ hd
    · skip
      refine x_iconst (pc := 42) (v := 1) dX10_doesOf_42 (by decide) ?_
      refine x_goto (pc := 43) (tgt := 47) dX10_doesOf_43 (by decide) ?_
      refine x_istore (pc := 47) (lv' := [(0, .ref M), (1, .int (nI bi)), (2, .int (nI (far (ce bi) ta))), (3, .int 0), (4, .int 1)]) dX10_doesOf_47 (by decide) rfl ?_
      refine x_aload_n (pc := 49) dX10_doesOf_49 rfl rfl ?_
      refine x_iload_n (pc := 50) dX10_doesOf_50 rfl rfl ?_
      refine x_aload_n (pc := 51) dX10_doesOf_51 rfl rfl ?_
      refine x_get (pc := 52) dX10_doesOf_52 kf_RX10_92 h.1.s rfl ?_
      rw [hta]
      refine x_iconst (pc := 55) (v := 0) dX10_doesOf_55 (by decide) ?_
      refine x_iconst (pc := 56) (v := 1) dX10_doesOf_56 (by decide) ?_
      refine x_callV (pc := 57) (As := [.int _, .int _, .int _, .int _]) dX10_doesOf_57 km_X10_nextBy kv_X10_nextBy kl_RX10_334 h.1.s rfl rfl (by decide) ⟨Nat.le_refl _, Nat.le_refl _⟩ rfl (Nat.le_of_ble_eq_true rfl) (Nat.le_of_ble_eq_true rfl) (m_nextBy_y h2 hb ht (⟨rfl, rfl, ?_⟩))
      rw [yPk2]
      refine x_istore (pc := 60) (lv' := [(0, .ref M), (1, .int (nI bi)), (2, .int (nI (far (ce bi) ta))), (3, .int 0), (4, .int 1), (5, .int (nI (yPk nb ce ta (ce bi) 4)))]) dX10_doesOf_60 (by decide) rfl ?_
      refine x_aload_n (pc := 62) dX10_doesOf_62 rfl rfl ?_
      refine x_iload_n (pc := 63) dX10_doesOf_63 rfl rfl ?_
      refine x_aload_n (pc := 64) dX10_doesOf_64 rfl rfl ?_
      refine x_get (pc := 65) dX10_doesOf_65 kf_RX10_92 h.1.s rfl ?_
      rw [hta]
      refine x_iconst (pc := 68) (v := 1) dX10_doesOf_68 (by decide) ?_
      refine x_iconst (pc := 69) (v := 0) dX10_doesOf_69 (by decide) ?_
      refine x_callV (pc := 70) (As := [.int _, .int _, .int _, .int _]) dX10_doesOf_70 km_X10_nextBy kv_X10_nextBy kl_RX10_334 h.1.s rfl rfl (by decide) ⟨Nat.le_refl _, Nat.le_refl _⟩ rfl (Nat.le_of_ble_eq_true rfl) (Nat.le_of_ble_eq_true rfl) (m_nextBy_c h2 hb ht (⟨rfl, rfl, ?_⟩))
      rw [show pick (cOk nb ce true ta) (cBet ta) (ce bi) 4 = cPk nb ce true ta ta (ce bi) 4 from rfl]
      refine x_istore (pc := 73) (lv' := [(0, .ref M), (1, .int (nI bi)), (2, .int (nI (far (ce bi) ta))), (3, .int 0), (4, .int 1), (5, .int (nI (yPk nb ce ta (ce bi) 4))), (6, .int (nI (cPk nb ce true ta ta (ce bi) 4)))]) dX10_doesOf_73 (by decide) rfl ?_
      refine x_aload_n (pc := 75) dX10_doesOf_75 rfl rfl ?_
      refine x_aload_n (pc := 76) dX10_doesOf_76 rfl rfl ?_
      refine x_getr (pc := 77) dX10_doesOf_77 kf_RX10_101 h.1.s rfl h.1.f15 ?_
      refine x_iload_n (pc := 80) dX10_doesOf_80 rfl rfl ?_
      refine x_ialdn (pc := 81) (a := bi) dX10_doesOf_81 h.1.s15 (by omega) (by omega) ?_
      rw [hc bi hb]
      refine x_put (pc := 82) dX10_doesOf_82 kf_RX10_123 h.1.s rfl (Or.inl kb_10_37) ?_
      have h3 := h2.keep (mdFr.fld (k := 37) (x := nI (ce bi)) (by omega))
      obtain ⟨hM, hn6, hnb, hki, hve, hc, hsto, hhu, hbd, hta, ht, hte, hte2, hlo, hlo2, hln⟩ := id h3
      have fin : ∀ d z, deedN nb ki ve ce sto hu ta te lo (lnO o) bi = (d, z) → P (n, sh, 0, 0) (up2 (up2 I2 M 37 (nI (ce bi))) M 37 (nI z)) R L (some (.int (nI d))) := fun d z e => by
        have h9 := K _ (g1.tr ((mdFr.fld (k := 37) (x := nI (ce bi)) (by omega)).tr (mdFr.fld (k := 37) (x := nI z) (by omega)))) (by rw [e]; exact up2_s)
        rw [e] at h9
        exact h9
      refine x_iload_n (pc := 85) dX10_doesOf_85 rfl rfl ?_
      refine x_if_eq_t (pc := 86) (tgt := 93) dX10_doesOf_86 (by decide) (by decide) ?_
      refine x_iload (pc := 93) dX10_doesOf_93 rfl ?_
      refine x_if_eq_f (pc := 95) (tgt := 102) dX10_doesOf_95 (by decide) (by decide) ?_
      refine x_iconst (pc := 98) (v := 1) dX10_doesOf_98 (by decide) ?_
      refine x_goto (pc := 99) (tgt := 103) dX10_doesOf_99 (by decide) ?_
      refine x_istore (pc := 103) (lv' := [(0, .ref M), (1, .int (nI bi)), (2, .int (nI (far (ce bi) ta))), (3, .int 0), (4, .int 1), (5, .int (nI (yPk nb ce ta (ce bi) 4))), (6, .int (nI (cPk nb ce true ta ta (ce bi) 4))), (7, .int 1)]) dX10_doesOf_103 (by decide) rfl ?_
      refine x_aload_n (pc := 105) dX10_doesOf_105 rfl rfl ?_
      refine x_getr (pc := 106) dX10_doesOf_106 kf_RX10_104 h.1.s rfl h.1.f16 ?_
      refine x_iload_n (pc := 109) dX10_doesOf_109 rfl rfl ?_
      refine x_ialdn (pc := 110) (a := bi) dX10_doesOf_110 h.1.s16 (by omega) (by omega) ?_
      rw [hki bi hb, hk, show nI 2 = 2 from rfl]
      refine x_tsw (pc := 111) (dt := 320) [(1, 148), (2, 320), (3, 167), (4, 201), (5, 235), (6, 283)] dX10_doesOf_111 (by decide +kernel) (by decide) ?_
      refine xsw_c (fun h => absurd h (by decide)) (fun _ => ?_)
      refine xsw_c (fun _ => ?_) (fun h => absurd rfl h)
      refine x_aload_n (pc := 320) dX10_doesOf_320 rfl rfl ?_
      refine x_iload (pc := 321) dX10_doesOf_321 rfl ?_
      refine x_iconst (pc := 323) (v := 1) dX10_doesOf_323 (by decide) ?_
      refine x_icmp_ne_f (pc := 324) (tgt := 332) dX10_doesOf_324 (by decide) (by decide) ?_
      refine x_iload (pc := 327) dX10_doesOf_327 rfl ?_
      refine x_goto (pc := 329) (tgt := 371) dX10_doesOf_329 (by decide) ?_
      refine x_put (pc := 371) dX10_doesOf_371 kf_RX10_123 h.1.s rfl (Or.inl kb_10_37) ?_
      refine x_aload_n (pc := 374) dX10_doesOf_374 rfl rfl ?_
      refine x_get (pc := 375) dX10_doesOf_375 kf_RX10_123 h.1.s rfl ?_
      rw [up2_s]
      refine x_aload_n (pc := 378) dX10_doesOf_378 rfl rfl ?_
      refine x_getr (pc := 379) dX10_doesOf_379 kf_RX10_101 h.1.s rfl h.1.f15 ?_
      refine x_iload_n (pc := 382) dX10_doesOf_382 rfl rfl ?_
      refine x_ialdn (pc := 383) (a := bi) dX10_doesOf_383 h.1.s15 (by omega) (by omega) ?_
      rw [up2_a (show M + 16 ≠ M by omega), hc bi hb]
      refine x_icmpn_ne (pc := 384) (tgt := 391) (a := (yPk nb ce ta (ce bi) 4)) (b := (ce bi)) dX10_doesOf_384 (by decide) (by omega) (by omega) (fun c384 => ?_) (fun c384 => ?_)
      · skip
        refine x_iload (pc := 391) dX10_doesOf_391 rfl ?_
        refine x_ireturn (pc := 393) dX10_doesOf_393 ⟨_, rfl, rfl⟩ ⟨Nat.le_refl _, Nat.le_refl _⟩ ?_
        have hd : deedN nb ki ve ce sto hu ta te lo (lnO o) bi = (1, (yPk nb ce ta (ce bi) 4)) := by
          rw [hdN]
          simp [deedF, yDeed, dCome, show isOne 2 1 = false from by decide, Nat.not_le.mpr c25, c39, c384]
        exact fin 1 _ hd
      · skip
        refine x_iconst (pc := 387) (v := 0) dX10_doesOf_387 (by decide) ?_
        refine x_goto (pc := 388) (tgt := 393) dX10_doesOf_388 (by decide) ?_
        refine x_ireturn (pc := 393) dX10_doesOf_393 ⟨_, rfl, rfl⟩ ⟨Nat.le_refl _, Nat.le_refl _⟩ ?_
        have hd : deedN nb ki ve ce sto hu ta te lo (lnO o) bi = (0, (yPk nb ce ta (ce bi) 4)) := by
          rw [hdN]
          simp [deedF, yDeed, dCome, show isOne 2 1 = false from by decide, Nat.not_le.mpr c25, c39, c384]
        exact fin 0 _ hd
  · skip
    refine x_iconst (pc := 28) (v := 1) dX10_doesOf_28 (by decide) ?_
    refine x_goto (pc := 29) (tgt := 33) dX10_doesOf_29 (by decide) ?_
    refine x_istore_n (pc := 33) (lv' := [(0, .ref M), (1, .int (nI bi)), (2, .int (nI (far (ce bi) ta))), (3, .int 1)]) dX10_doesOf_33 rfl (by decide) rfl ?_
    refine x_iload_n (pc := 34) dX10_doesOf_34 rfl rfl ?_
    refine x_aload_n (pc := 35) dX10_doesOf_35 rfl rfl ?_
    refine x_get (pc := 36) dX10_doesOf_36 kf_RX10_117 h.1.s rfl ?_
    rw [y2]
    refine x_icmpn_gt (pc := 39) (tgt := 46) (a := (far (ce bi) ta)) (b := YV) dX10_doesOf_39 (by decide) (by omega) (by omega) (fun c39 => ?_) (fun c39 => ?_)
    · skip
      refine x_iconst (pc := 46) (v := 0) dX10_doesOf_46 (by decide) ?_
      refine x_istore (pc := 47) (lv' := [(0, .ref M), (1, .int (nI bi)), (2, .int (nI (far (ce bi) ta))), (3, .int 1), (4, .int 0)]) dX10_doesOf_47 (by decide) rfl ?_
      refine x_aload_n (pc := 49) dX10_doesOf_49 rfl rfl ?_
      refine x_iload_n (pc := 50) dX10_doesOf_50 rfl rfl ?_
      refine x_aload_n (pc := 51) dX10_doesOf_51 rfl rfl ?_
      refine x_get (pc := 52) dX10_doesOf_52 kf_RX10_92 h.1.s rfl ?_
      rw [hta]
      refine x_iconst (pc := 55) (v := 0) dX10_doesOf_55 (by decide) ?_
      refine x_iconst (pc := 56) (v := 1) dX10_doesOf_56 (by decide) ?_
      refine x_callV (pc := 57) (As := [.int _, .int _, .int _, .int _]) dX10_doesOf_57 km_X10_nextBy kv_X10_nextBy kl_RX10_334 h.1.s rfl rfl (by decide) ⟨Nat.le_refl _, Nat.le_refl _⟩ rfl (Nat.le_of_ble_eq_true rfl) (Nat.le_of_ble_eq_true rfl) (m_nextBy_y h2 hb ht (⟨rfl, rfl, ?_⟩))
      rw [yPk2]
      refine x_istore (pc := 60) (lv' := [(0, .ref M), (1, .int (nI bi)), (2, .int (nI (far (ce bi) ta))), (3, .int 1), (4, .int 0), (5, .int (nI (yPk nb ce ta (ce bi) 4)))]) dX10_doesOf_60 (by decide) rfl ?_
      refine x_aload_n (pc := 62) dX10_doesOf_62 rfl rfl ?_
      refine x_iload_n (pc := 63) dX10_doesOf_63 rfl rfl ?_
      refine x_aload_n (pc := 64) dX10_doesOf_64 rfl rfl ?_
      refine x_get (pc := 65) dX10_doesOf_65 kf_RX10_92 h.1.s rfl ?_
      rw [hta]
      refine x_iconst (pc := 68) (v := 1) dX10_doesOf_68 (by decide) ?_
      refine x_iconst (pc := 69) (v := 0) dX10_doesOf_69 (by decide) ?_
      refine x_callV (pc := 70) (As := [.int _, .int _, .int _, .int _]) dX10_doesOf_70 km_X10_nextBy kv_X10_nextBy kl_RX10_334 h.1.s rfl rfl (by decide) ⟨Nat.le_refl _, Nat.le_refl _⟩ rfl (Nat.le_of_ble_eq_true rfl) (Nat.le_of_ble_eq_true rfl) (m_nextBy_c h2 hb ht (⟨rfl, rfl, ?_⟩))
      rw [show pick (cOk nb ce true ta) (cBet ta) (ce bi) 4 = cPk nb ce true ta ta (ce bi) 4 from rfl]
      refine x_istore (pc := 73) (lv' := [(0, .ref M), (1, .int (nI bi)), (2, .int (nI (far (ce bi) ta))), (3, .int 1), (4, .int 0), (5, .int (nI (yPk nb ce ta (ce bi) 4))), (6, .int (nI (cPk nb ce true ta ta (ce bi) 4)))]) dX10_doesOf_73 (by decide) rfl ?_
      refine x_aload_n (pc := 75) dX10_doesOf_75 rfl rfl ?_
      refine x_aload_n (pc := 76) dX10_doesOf_76 rfl rfl ?_
      refine x_getr (pc := 77) dX10_doesOf_77 kf_RX10_101 h.1.s rfl h.1.f15 ?_
      refine x_iload_n (pc := 80) dX10_doesOf_80 rfl rfl ?_
      refine x_ialdn (pc := 81) (a := bi) dX10_doesOf_81 h.1.s15 (by omega) (by omega) ?_
      rw [hc bi hb]
      refine x_put (pc := 82) dX10_doesOf_82 kf_RX10_123 h.1.s rfl (Or.inl kb_10_37) ?_
      have h3 := h2.keep (mdFr.fld (k := 37) (x := nI (ce bi)) (by omega))
      obtain ⟨hM, hn6, hnb, hki, hve, hc, hsto, hhu, hbd, hta, ht, hte, hte2, hlo, hlo2, hln⟩ := id h3
      have fin : ∀ d z, deedN nb ki ve ce sto hu ta te lo (lnO o) bi = (d, z) → P (n, sh, 0, 0) (up2 (up2 I2 M 37 (nI (ce bi))) M 37 (nI z)) R L (some (.int (nI d))) := fun d z e => by
        have h9 := K _ (g1.tr ((mdFr.fld (k := 37) (x := nI (ce bi)) (by omega)).tr (mdFr.fld (k := 37) (x := nI z) (by omega)))) (by rw [e]; exact up2_s)
        rw [e] at h9
        exact h9
      refine x_iload_n (pc := 85) dX10_doesOf_85 rfl rfl ?_
      refine x_if_eq_f (pc := 86) (tgt := 93) dX10_doesOf_86 (by decide) (by decide) ?_
      refine x_iconst (pc := 89) (v := 2) dX10_doesOf_89 (by decide) ?_
      refine x_goto (pc := 90) (tgt := 103) dX10_doesOf_90 (by decide) ?_
      refine x_istore (pc := 103) (lv' := [(0, .ref M), (1, .int (nI bi)), (2, .int (nI (far (ce bi) ta))), (3, .int 1), (4, .int 0), (5, .int (nI (yPk nb ce ta (ce bi) 4))), (6, .int (nI (cPk nb ce true ta ta (ce bi) 4))), (7, .int 2)]) dX10_doesOf_103 (by decide) rfl ?_
      refine x_aload_n (pc := 105) dX10_doesOf_105 rfl rfl ?_
      refine x_getr (pc := 106) dX10_doesOf_106 kf_RX10_104 h.1.s rfl h.1.f16 ?_
      refine x_iload_n (pc := 109) dX10_doesOf_109 rfl rfl ?_
      refine x_ialdn (pc := 110) (a := bi) dX10_doesOf_110 h.1.s16 (by omega) (by omega) ?_
      rw [hki bi hb, hk, show nI 2 = 2 from rfl]
      refine x_tsw (pc := 111) (dt := 320) [(1, 148), (2, 320), (3, 167), (4, 201), (5, 235), (6, 283)] dX10_doesOf_111 (by decide +kernel) (by decide) ?_
      refine xsw_c (fun h => absurd h (by decide)) (fun _ => ?_)
      refine xsw_c (fun _ => ?_) (fun h => absurd rfl h)
      refine x_aload_n (pc := 320) dX10_doesOf_320 rfl rfl ?_
      refine x_iload (pc := 321) dX10_doesOf_321 rfl ?_
      refine x_iconst (pc := 323) (v := 1) dX10_doesOf_323 (by decide) ?_
      refine x_icmp_ne_t (pc := 324) (tgt := 332) dX10_doesOf_324 (by decide) (by decide) ?_
      refine x_iload (pc := 332) dX10_doesOf_332 rfl ?_
      refine x_iconst (pc := 334) (v := 2) dX10_doesOf_334 (by decide) ?_
      refine x_icmp_ne_f (pc := 335) (tgt := 343) dX10_doesOf_335 (by decide) (by decide) ?_
      refine x_iload (pc := 338) dX10_doesOf_338 rfl ?_
      refine x_goto (pc := 340) (tgt := 371) dX10_doesOf_340 (by decide) ?_
      refine x_put (pc := 371) dX10_doesOf_371 kf_RX10_123 h.1.s rfl (Or.inl kb_10_37) ?_
      refine x_aload_n (pc := 374) dX10_doesOf_374 rfl rfl ?_
      refine x_get (pc := 375) dX10_doesOf_375 kf_RX10_123 h.1.s rfl ?_
      rw [up2_s]
      refine x_aload_n (pc := 378) dX10_doesOf_378 rfl rfl ?_
      refine x_getr (pc := 379) dX10_doesOf_379 kf_RX10_101 h.1.s rfl h.1.f15 ?_
      refine x_iload_n (pc := 382) dX10_doesOf_382 rfl rfl ?_
      refine x_ialdn (pc := 383) (a := bi) dX10_doesOf_383 h.1.s15 (by omega) (by omega) ?_
      rw [up2_a (show M + 16 ≠ M by omega), hc bi hb]
      refine x_icmpn_ne (pc := 384) (tgt := 391) (a := (cPk nb ce true ta ta (ce bi) 4)) (b := (ce bi)) dX10_doesOf_384 (by decide) (by omega) (by omega) (fun c384 => ?_) (fun c384 => ?_)
      · skip
        refine x_iload (pc := 391) dX10_doesOf_391 rfl ?_
        refine x_ireturn (pc := 393) dX10_doesOf_393 ⟨_, rfl, rfl⟩ ⟨Nat.le_refl _, Nat.le_refl _⟩ ?_
        have hd : deedN nb ki ve ce sto hu ta te lo (lnO o) bi = (2, (cPk nb ce true ta ta (ce bi) 4)) := by
          rw [hdN]
          simp [deedF, yDeed, dCome, show isOne 2 1 = false from by decide, c25, Nat.not_le.mpr c39, c384]
        exact fin 2 _ hd
      · skip
        refine x_iconst (pc := 387) (v := 0) dX10_doesOf_387 (by decide) ?_
        refine x_goto (pc := 388) (tgt := 393) dX10_doesOf_388 (by decide) ?_
        refine x_ireturn (pc := 393) dX10_doesOf_393 ⟨_, rfl, rfl⟩ ⟨Nat.le_refl _, Nat.le_refl _⟩ ?_
        have hd : deedN nb ki ve ce sto hu ta te lo (lnO o) bi = (0, (cPk nb ce true ta ta (ce bi) 4)) := by
          rw [hdN]
          simp [deedF, yDeed, dCome, show isOne 2 1 = false from by decide, c25, Nat.not_le.mpr c39, c384]
        exact fin 0 _ hd
    · skip
      refine x_iconst (pc := 42) (v := 1) dX10_doesOf_42 (by decide) ?_
      refine x_goto (pc := 43) (tgt := 47) dX10_doesOf_43 (by decide) ?_
      refine x_istore (pc := 47) (lv' := [(0, .ref M), (1, .int (nI bi)), (2, .int (nI (far (ce bi) ta))), (3, .int 1), (4, .int 1)]) dX10_doesOf_47 (by decide) rfl ?_
      refine x_aload_n (pc := 49) dX10_doesOf_49 rfl rfl ?_
      refine x_iload_n (pc := 50) dX10_doesOf_50 rfl rfl ?_
      refine x_aload_n (pc := 51) dX10_doesOf_51 rfl rfl ?_
      refine x_get (pc := 52) dX10_doesOf_52 kf_RX10_92 h.1.s rfl ?_
      rw [hta]
      refine x_iconst (pc := 55) (v := 0) dX10_doesOf_55 (by decide) ?_
      refine x_iconst (pc := 56) (v := 1) dX10_doesOf_56 (by decide) ?_
      refine x_callV (pc := 57) (As := [.int _, .int _, .int _, .int _]) dX10_doesOf_57 km_X10_nextBy kv_X10_nextBy kl_RX10_334 h.1.s rfl rfl (by decide) ⟨Nat.le_refl _, Nat.le_refl _⟩ rfl (Nat.le_of_ble_eq_true rfl) (Nat.le_of_ble_eq_true rfl) (m_nextBy_y h2 hb ht (⟨rfl, rfl, ?_⟩))
      rw [yPk2]
      refine x_istore (pc := 60) (lv' := [(0, .ref M), (1, .int (nI bi)), (2, .int (nI (far (ce bi) ta))), (3, .int 1), (4, .int 1), (5, .int (nI (yPk nb ce ta (ce bi) 4)))]) dX10_doesOf_60 (by decide) rfl ?_
      refine x_aload_n (pc := 62) dX10_doesOf_62 rfl rfl ?_
      refine x_iload_n (pc := 63) dX10_doesOf_63 rfl rfl ?_
      refine x_aload_n (pc := 64) dX10_doesOf_64 rfl rfl ?_
      refine x_get (pc := 65) dX10_doesOf_65 kf_RX10_92 h.1.s rfl ?_
      rw [hta]
      refine x_iconst (pc := 68) (v := 1) dX10_doesOf_68 (by decide) ?_
      refine x_iconst (pc := 69) (v := 0) dX10_doesOf_69 (by decide) ?_
      refine x_callV (pc := 70) (As := [.int _, .int _, .int _, .int _]) dX10_doesOf_70 km_X10_nextBy kv_X10_nextBy kl_RX10_334 h.1.s rfl rfl (by decide) ⟨Nat.le_refl _, Nat.le_refl _⟩ rfl (Nat.le_of_ble_eq_true rfl) (Nat.le_of_ble_eq_true rfl) (m_nextBy_c h2 hb ht (⟨rfl, rfl, ?_⟩))
      rw [show pick (cOk nb ce true ta) (cBet ta) (ce bi) 4 = cPk nb ce true ta ta (ce bi) 4 from rfl]
      refine x_istore (pc := 73) (lv' := [(0, .ref M), (1, .int (nI bi)), (2, .int (nI (far (ce bi) ta))), (3, .int 1), (4, .int 1), (5, .int (nI (yPk nb ce ta (ce bi) 4))), (6, .int (nI (cPk nb ce true ta ta (ce bi) 4)))]) dX10_doesOf_73 (by decide) rfl ?_
      refine x_aload_n (pc := 75) dX10_doesOf_75 rfl rfl ?_
      refine x_aload_n (pc := 76) dX10_doesOf_76 rfl rfl ?_
      refine x_getr (pc := 77) dX10_doesOf_77 kf_RX10_101 h.1.s rfl h.1.f15 ?_
      refine x_iload_n (pc := 80) dX10_doesOf_80 rfl rfl ?_
      refine x_ialdn (pc := 81) (a := bi) dX10_doesOf_81 h.1.s15 (by omega) (by omega) ?_
      rw [hc bi hb]
      refine x_put (pc := 82) dX10_doesOf_82 kf_RX10_123 h.1.s rfl (Or.inl kb_10_37) ?_
      have h3 := h2.keep (mdFr.fld (k := 37) (x := nI (ce bi)) (by omega))
      obtain ⟨hM, hn6, hnb, hki, hve, hc, hsto, hhu, hbd, hta, ht, hte, hte2, hlo, hlo2, hln⟩ := id h3
      have fin : ∀ d z, deedN nb ki ve ce sto hu ta te lo (lnO o) bi = (d, z) → P (n, sh, 0, 0) (up2 (up2 I2 M 37 (nI (ce bi))) M 37 (nI z)) R L (some (.int (nI d))) := fun d z e => by
        have h9 := K _ (g1.tr ((mdFr.fld (k := 37) (x := nI (ce bi)) (by omega)).tr (mdFr.fld (k := 37) (x := nI z) (by omega)))) (by rw [e]; exact up2_s)
        rw [e] at h9
        exact h9
      refine x_iload_n (pc := 85) dX10_doesOf_85 rfl rfl ?_
      refine x_if_eq_f (pc := 86) (tgt := 93) dX10_doesOf_86 (by decide) (by decide) ?_
      refine x_iconst (pc := 89) (v := 2) dX10_doesOf_89 (by decide) ?_
      refine x_goto (pc := 90) (tgt := 103) dX10_doesOf_90 (by decide) ?_
      refine x_istore (pc := 103) (lv' := [(0, .ref M), (1, .int (nI bi)), (2, .int (nI (far (ce bi) ta))), (3, .int 1), (4, .int 1), (5, .int (nI (yPk nb ce ta (ce bi) 4))), (6, .int (nI (cPk nb ce true ta ta (ce bi) 4))), (7, .int 2)]) dX10_doesOf_103 (by decide) rfl ?_
      refine x_aload_n (pc := 105) dX10_doesOf_105 rfl rfl ?_
      refine x_getr (pc := 106) dX10_doesOf_106 kf_RX10_104 h.1.s rfl h.1.f16 ?_
      refine x_iload_n (pc := 109) dX10_doesOf_109 rfl rfl ?_
      refine x_ialdn (pc := 110) (a := bi) dX10_doesOf_110 h.1.s16 (by omega) (by omega) ?_
      rw [hki bi hb, hk, show nI 2 = 2 from rfl]
      refine x_tsw (pc := 111) (dt := 320) [(1, 148), (2, 320), (3, 167), (4, 201), (5, 235), (6, 283)] dX10_doesOf_111 (by decide +kernel) (by decide) ?_
      refine xsw_c (fun h => absurd h (by decide)) (fun _ => ?_)
      refine xsw_c (fun _ => ?_) (fun h => absurd rfl h)
      refine x_aload_n (pc := 320) dX10_doesOf_320 rfl rfl ?_
      refine x_iload (pc := 321) dX10_doesOf_321 rfl ?_
      refine x_iconst (pc := 323) (v := 1) dX10_doesOf_323 (by decide) ?_
      refine x_icmp_ne_t (pc := 324) (tgt := 332) dX10_doesOf_324 (by decide) (by decide) ?_
      refine x_iload (pc := 332) dX10_doesOf_332 rfl ?_
      refine x_iconst (pc := 334) (v := 2) dX10_doesOf_334 (by decide) ?_
      refine x_icmp_ne_f (pc := 335) (tgt := 343) dX10_doesOf_335 (by decide) (by decide) ?_
      refine x_iload (pc := 338) dX10_doesOf_338 rfl ?_
      refine x_goto (pc := 340) (tgt := 371) dX10_doesOf_340 (by decide) ?_
      refine x_put (pc := 371) dX10_doesOf_371 kf_RX10_123 h.1.s rfl (Or.inl kb_10_37) ?_
      refine x_aload_n (pc := 374) dX10_doesOf_374 rfl rfl ?_
      refine x_get (pc := 375) dX10_doesOf_375 kf_RX10_123 h.1.s rfl ?_
      rw [up2_s]
      refine x_aload_n (pc := 378) dX10_doesOf_378 rfl rfl ?_
      refine x_getr (pc := 379) dX10_doesOf_379 kf_RX10_101 h.1.s rfl h.1.f15 ?_
      refine x_iload_n (pc := 382) dX10_doesOf_382 rfl rfl ?_
      refine x_ialdn (pc := 383) (a := bi) dX10_doesOf_383 h.1.s15 (by omega) (by omega) ?_
      rw [up2_a (show M + 16 ≠ M by omega), hc bi hb]
      refine x_icmpn_ne (pc := 384) (tgt := 391) (a := (cPk nb ce true ta ta (ce bi) 4)) (b := (ce bi)) dX10_doesOf_384 (by decide) (by omega) (by omega) (fun c384 => ?_) (fun c384 => ?_)
      · skip
        refine x_iload (pc := 391) dX10_doesOf_391 rfl ?_
        refine x_ireturn (pc := 393) dX10_doesOf_393 ⟨_, rfl, rfl⟩ ⟨Nat.le_refl _, Nat.le_refl _⟩ ?_
        have hd : deedN nb ki ve ce sto hu ta te lo (lnO o) bi = (2, (cPk nb ce true ta ta (ce bi) 4)) := by
          rw [hdN]
          simp [deedF, yDeed, dCome, show isOne 2 1 = false from by decide, c25, c39, c384]
        exact fin 2 _ hd
      · skip
        refine x_iconst (pc := 387) (v := 0) dX10_doesOf_387 (by decide) ?_
        refine x_goto (pc := 388) (tgt := 393) dX10_doesOf_388 (by decide) ?_
        refine x_ireturn (pc := 393) dX10_doesOf_393 ⟨_, rfl, rfl⟩ ⟨Nat.le_refl _, Nat.le_refl _⟩ ?_
        have hd : deedN nb ki ve ce sto hu ta te lo (lnO o) bi = (0, (cPk nb ce true ta ta (ce bi) 4)) := by
          rw [hdN]
          simp [deedF, yDeed, dCome, show isOne 2 1 = false from by decide, c25, c39, c384]
        exact fin 0 _ hd

set_option maxHeartbeats 4000000 in
set_option maxRecDepth 100000 in
theorem m_doesOf_3 {T : xT} {n : Nat} {sh : Nat → Nat × Nat} {I : xI} {R : xR} {L : xL} {P : xPost} {M nb ta te lo : Nat} {ki ve ce sto hu : Nat → Nat} {o : Option xAR} {bi : Nat} (h : MS sh R I M nb ki ve ce sto hu ta te lo o) (hb : bi < nb) (hk : ki bi = 3) (K : ∀ I2 : xI, mdFr M I I2 → I2 M 37 = nI (deedN nb ki ve ce sto hu ta te lo (lnO o) bi).2 → P (n, sh, 0, 0) I2 R L (some (.int (nI (deedN nb ki ve ce sto hu ta te lo (lnO o) bi).1)))) : XM T zX10_doesOf 4 [.ref M, .int (nI bi)] n sh I R L P := by
  have hM0 := h.1
  refine x_aload_n (pc := 0) dX10_doesOf_0 rfl rfl ?_
  refine x_iload_n (pc := 1) dX10_doesOf_1 rfl rfl ?_
  refine x_callV (pc := 2) (As := [.int _]) dX10_doesOf_2 km_X10_layLines kv_X10_layLines kl_RX10_331 h.1.s rfl rfl (by decide) ⟨Nat.le_refl _, Nat.le_refl _⟩ rfl (Nat.le_of_ble_eq_true rfl) (Nat.le_of_ble_eq_true rfl) (m_layLines h hb (fun I2 g1 y2 c2 => ⟨rfl, rfl, ?_⟩))
  have h2 := h.keep g1
  obtain ⟨hM, hn6, hnb, hki, hve, hc, hsto, hhu, hbd, hta, ht, hte, hte2, hlo, hlo2, hln⟩ := id h2
  have hce : ∀ i, i < nb → ce i < 36 := fun i hi => (hbd i hi).2.2.1
  obtain ⟨hk7, hv10, hc36, hs36, hu10⟩ := hbd bi hb
  have hfl := far_lt hc36 ht
  have hfs := far_lt hc36 hs36
  have hyl : ylOf (lnAt (lnO o) nb ce hu te bi) lo < 200 := by unfold ylOf; have := mn_le (a := (lnAt (lnO o) nb ce hu te bi).1) (b := 9); omega
  have hcl : clOf (lnAt (lnO o) nb ce hu te bi) (ki bi) (ve bi) lo < 200 := by unfold clOf; have h1 : cm (mn (lnAt (lnO o) nb ce hu te bi).1 9) (lnAt (lnO o) nb ce hu te bi).2 ≤ 9 := (by unfold cm; split; omega; have := mn_le (a := (lnAt (lnO o) nb ce hu te bi).1) (b := 9); have := mn_le (a := (lnAt (lnO o) nb ce hu te bi).2) (b := mn (lnAt (lnO o) nb ce hu te bi).1 9 - 1); omega); split <;> omega
  obtain ⟨YV, hYV⟩ : ∃ z, z = ylOf (lnAt (lnO o) nb ce hu te bi) lo := ⟨_, rfl⟩
  obtain ⟨CV, hCV⟩ : ∃ z, z = clOf (lnAt (lnO o) nb ce hu te bi) (ki bi) (ve bi) lo := ⟨_, rfl⟩
  rw [← hYV] at y2 hyl
  rw [← hCV] at c2 hcl
  have hdN : deedN nb ki ve ce sto hu ta te lo (lnO o) bi = deedF nb ce 3 (ve bi) (sto bi) ta te YV CV (ce bi) := by unfold deedN; rw [hYV, hCV, hk]
  have hy36 : yPk nb ce ta (ce bi) 4 < 36 := pick_lt hc36 4
  have hq36 : cPk nb ce true ta ta (ce bi) 4 < 36 := pick_lt hc36 4
  have hs4 : cPk nb ce false ta (sto bi) (ce bi) 4 < 36 := pick_lt hc36 4
  refine x_aload_n (pc := 5) dX10_doesOf_5 rfl rfl ?_
  refine x_aload_n (pc := 6) dX10_doesOf_6 rfl rfl ?_
  refine x_getr (pc := 7) dX10_doesOf_7 kf_RX10_101 h.1.s rfl h.1.f15 ?_
  refine x_iload_n (pc := 10) dX10_doesOf_10 rfl rfl ?_
  refine x_ialdn (pc := 11) (a := bi) dX10_doesOf_11 h.1.s15 (by omega) (by omega) ?_
  rw [hc bi hb]
  refine x_aload_n (pc := 12) dX10_doesOf_12 rfl rfl ?_
  refine x_get (pc := 13) dX10_doesOf_13 kf_RX10_92 h.1.s rfl ?_
  rw [hta]
  refine x_callV (pc := 16) (As := [.int _, .int _]) dX10_doesOf_16 km_X10_far kv_X10_far kl_RX10_301 h.1.s rfl rfl (by decide) ⟨Nat.le_refl _, Nat.le_refl _⟩ rfl (Nat.le_of_ble_eq_true rfl) (Nat.le_of_ble_eq_true rfl) (m_far h.1.s hc36 ht (⟨rfl, rfl, ?_⟩))
  refine x_istore_n (pc := 19) (lv' := [(0, .ref M), (1, .int (nI bi)), (2, .int (nI (far (ce bi) ta)))]) dX10_doesOf_19 rfl (by decide) rfl ?_
  refine x_iload_n (pc := 20) dX10_doesOf_20 rfl rfl ?_
  refine x_aload_n (pc := 21) dX10_doesOf_21 rfl rfl ?_
  refine x_get (pc := 22) dX10_doesOf_22 kf_RX10_120 h.1.s rfl ?_
  rw [c2]
  refine x_icmpn_gt (pc := 25) (tgt := 32) (a := (far (ce bi) ta)) (b := CV) dX10_doesOf_25 (by decide) (by omega) (by omega) (fun c25 => ?_) (fun c25 => ?_)
  · skip
    refine x_iconst (pc := 32) (v := 0) dX10_doesOf_32 (by decide) ?_
    refine x_istore_n (pc := 33) (lv' := [(0, .ref M), (1, .int (nI bi)), (2, .int (nI (far (ce bi) ta))), (3, .int 0)]) dX10_doesOf_33 rfl (by decide) rfl ?_
    refine x_iload_n (pc := 34) dX10_doesOf_34 rfl rfl ?_
    refine x_aload_n (pc := 35) dX10_doesOf_35 rfl rfl ?_
    refine x_get (pc := 36) dX10_doesOf_36 kf_RX10_117 h.1.s rfl ?_
    rw [y2]
    refine x_icmpn_gt (pc := 39) (tgt := 46) (a := (far (ce bi) ta)) (b := YV) dX10_doesOf_39 (by decide) (by omega) (by omega) (fun c39 => ?_) (fun c39 => ?_)
    · skip
      refine x_iconst (pc := 46) (v := 0) dX10_doesOf_46 (by decide) ?_
      refine x_istore (pc := 47) (lv' := [(0, .ref M), (1, .int (nI bi)), (2, .int (nI (far (ce bi) ta))), (3, .int 0), (4, .int 0)]) dX10_doesOf_47 (by decide) rfl ?_
      refine x_aload_n (pc := 49) dX10_doesOf_49 rfl rfl ?_
      refine x_iload_n (pc := 50) dX10_doesOf_50 rfl rfl ?_
      refine x_aload_n (pc := 51) dX10_doesOf_51 rfl rfl ?_
      refine x_get (pc := 52) dX10_doesOf_52 kf_RX10_92 h.1.s rfl ?_
      rw [hta]
      refine x_iconst (pc := 55) (v := 0) dX10_doesOf_55 (by decide) ?_
      refine x_iconst (pc := 56) (v := 1) dX10_doesOf_56 (by decide) ?_
      refine x_callV (pc := 57) (As := [.int _, .int _, .int _, .int _]) dX10_doesOf_57 km_X10_nextBy kv_X10_nextBy kl_RX10_334 h.1.s rfl rfl (by decide) ⟨Nat.le_refl _, Nat.le_refl _⟩ rfl (Nat.le_of_ble_eq_true rfl) (Nat.le_of_ble_eq_true rfl) (m_nextBy_y h2 hb ht (⟨rfl, rfl, ?_⟩))
      rw [yPk2]
      refine x_istore (pc := 60) (lv' := [(0, .ref M), (1, .int (nI bi)), (2, .int (nI (far (ce bi) ta))), (3, .int 0), (4, .int 0), (5, .int (nI (yPk nb ce ta (ce bi) 4)))]) dX10_doesOf_60 (by decide) rfl ?_
      refine x_aload_n (pc := 62) dX10_doesOf_62 rfl rfl ?_
      refine x_iload_n (pc := 63) dX10_doesOf_63 rfl rfl ?_
      refine x_aload_n (pc := 64) dX10_doesOf_64 rfl rfl ?_
      refine x_get (pc := 65) dX10_doesOf_65 kf_RX10_92 h.1.s rfl ?_
      rw [hta]
      refine x_iconst (pc := 68) (v := 1) dX10_doesOf_68 (by decide) ?_
      refine x_iconst (pc := 69) (v := 0) dX10_doesOf_69 (by decide) ?_
      refine x_callV (pc := 70) (As := [.int _, .int _, .int _, .int _]) dX10_doesOf_70 km_X10_nextBy kv_X10_nextBy kl_RX10_334 h.1.s rfl rfl (by decide) ⟨Nat.le_refl _, Nat.le_refl _⟩ rfl (Nat.le_of_ble_eq_true rfl) (Nat.le_of_ble_eq_true rfl) (m_nextBy_c h2 hb ht (⟨rfl, rfl, ?_⟩))
      rw [show pick (cOk nb ce true ta) (cBet ta) (ce bi) 4 = cPk nb ce true ta ta (ce bi) 4 from rfl]
      refine x_istore (pc := 73) (lv' := [(0, .ref M), (1, .int (nI bi)), (2, .int (nI (far (ce bi) ta))), (3, .int 0), (4, .int 0), (5, .int (nI (yPk nb ce ta (ce bi) 4))), (6, .int (nI (cPk nb ce true ta ta (ce bi) 4)))]) dX10_doesOf_73 (by decide) rfl ?_
      refine x_aload_n (pc := 75) dX10_doesOf_75 rfl rfl ?_
      refine x_aload_n (pc := 76) dX10_doesOf_76 rfl rfl ?_
      refine x_getr (pc := 77) dX10_doesOf_77 kf_RX10_101 h.1.s rfl h.1.f15 ?_
      refine x_iload_n (pc := 80) dX10_doesOf_80 rfl rfl ?_
      refine x_ialdn (pc := 81) (a := bi) dX10_doesOf_81 h.1.s15 (by omega) (by omega) ?_
      rw [hc bi hb]
      refine x_put (pc := 82) dX10_doesOf_82 kf_RX10_123 h.1.s rfl (Or.inl kb_10_37) ?_
      have h3 := h2.keep (mdFr.fld (k := 37) (x := nI (ce bi)) (by omega))
      obtain ⟨hM, hn6, hnb, hki, hve, hc, hsto, hhu, hbd, hta, ht, hte, hte2, hlo, hlo2, hln⟩ := id h3
      have fin : ∀ d z, deedN nb ki ve ce sto hu ta te lo (lnO o) bi = (d, z) → P (n, sh, 0, 0) (up2 (up2 I2 M 37 (nI (ce bi))) M 37 (nI z)) R L (some (.int (nI d))) := fun d z e => by
        have h9 := K _ (g1.tr ((mdFr.fld (k := 37) (x := nI (ce bi)) (by omega)).tr (mdFr.fld (k := 37) (x := nI z) (by omega)))) (by rw [e]; exact up2_s)
        rw [e] at h9
        exact h9
      refine x_iload_n (pc := 85) dX10_doesOf_85 rfl rfl ?_
      refine x_if_eq_t (pc := 86) (tgt := 93) dX10_doesOf_86 (by decide) (by decide) ?_
      refine x_iload (pc := 93) dX10_doesOf_93 rfl ?_
      refine x_if_eq_t (pc := 95) (tgt := 102) dX10_doesOf_95 (by decide) (by decide) ?_
      refine x_iconst (pc := 102) (v := 0) dX10_doesOf_102 (by decide) ?_
      refine x_istore (pc := 103) (lv' := [(0, .ref M), (1, .int (nI bi)), (2, .int (nI (far (ce bi) ta))), (3, .int 0), (4, .int 0), (5, .int (nI (yPk nb ce ta (ce bi) 4))), (6, .int (nI (cPk nb ce true ta ta (ce bi) 4))), (7, .int 0)]) dX10_doesOf_103 (by decide) rfl ?_
      refine x_aload_n (pc := 105) dX10_doesOf_105 rfl rfl ?_
      refine x_getr (pc := 106) dX10_doesOf_106 kf_RX10_104 h.1.s rfl h.1.f16 ?_
      refine x_iload_n (pc := 109) dX10_doesOf_109 rfl rfl ?_
      refine x_ialdn (pc := 110) (a := bi) dX10_doesOf_110 h.1.s16 (by omega) (by omega) ?_
      rw [hki bi hb, hk, show nI 3 = 3 from rfl]
      refine x_tsw (pc := 111) (dt := 320) [(1, 148), (2, 320), (3, 167), (4, 201), (5, 235), (6, 283)] dX10_doesOf_111 (by decide +kernel) (by decide) ?_
      refine xsw_c (fun h => absurd h (by decide)) (fun _ => ?_)
      refine xsw_c (fun h => absurd h (by decide)) (fun _ => ?_)
      refine xsw_c (fun _ => ?_) (fun h => absurd rfl h)
      refine x_aload_n (pc := 167) dX10_doesOf_167 rfl rfl ?_
      refine x_getr (pc := 168) dX10_doesOf_168 kf_RX10_26 h.1.s rfl h.1.f1 ?_
      refine x_iload_n (pc := 171) dX10_doesOf_171 rfl rfl ?_
      refine x_ialdn (pc := 172) (a := bi) dX10_doesOf_172 h.1.s1 (by omega) (by omega) ?_
      rw [hve bi hb]
      refine x_ifn_le (pc := 173) (tgt := 194) (a := (ve bi)) dX10_doesOf_173 (by decide) (by omega) (fun c173 => ?_) (fun c173 => ?_)
      · skip
        refine x_iload (pc := 194) dX10_doesOf_194 rfl ?_
        refine x_istore (pc := 196) (lv' := [(0, .ref M), (1, .int (nI bi)), (2, .int (nI (far (ce bi) ta))), (3, .int 0), (4, .int 0), (5, .int (nI (yPk nb ce ta (ce bi) 4))), (6, .int (nI (cPk nb ce true ta ta (ce bi) 4))), (7, .int 0)]) dX10_doesOf_196 (by decide) rfl ?_
        refine x_goto (pc := 198) (tgt := 320) dX10_doesOf_198 (by decide) ?_
        refine x_aload_n (pc := 320) dX10_doesOf_320 rfl rfl ?_
        refine x_iload (pc := 321) dX10_doesOf_321 rfl ?_
        refine x_iconst (pc := 323) (v := 1) dX10_doesOf_323 (by decide) ?_
        refine x_icmp_ne_t (pc := 324) (tgt := 332) dX10_doesOf_324 (by decide) (by decide) ?_
        refine x_iload (pc := 332) dX10_doesOf_332 rfl ?_
        refine x_iconst (pc := 334) (v := 2) dX10_doesOf_334 (by decide) ?_
        refine x_icmp_ne_t (pc := 335) (tgt := 343) dX10_doesOf_335 (by decide) (by decide) ?_
        refine x_iload (pc := 343) dX10_doesOf_343 rfl ?_
        refine x_iconst (pc := 345) (v := 3) dX10_doesOf_345 (by decide) ?_
        refine x_icmp_ne_t (pc := 346) (tgt := 365) dX10_doesOf_346 (by decide) (by decide) ?_
        refine x_aload_n (pc := 365) dX10_doesOf_365 rfl rfl ?_
        refine x_getr (pc := 366) dX10_doesOf_366 kf_RX10_101 h.1.s rfl h.1.f15 ?_
        refine x_iload_n (pc := 369) dX10_doesOf_369 rfl rfl ?_
        refine x_ialdn (pc := 370) (a := bi) dX10_doesOf_370 h.1.s15 (by omega) (by omega) ?_
        rw [hc bi hb]
        refine x_put (pc := 371) dX10_doesOf_371 kf_RX10_123 h.1.s rfl (Or.inl kb_10_37) ?_
        refine x_aload_n (pc := 374) dX10_doesOf_374 rfl rfl ?_
        refine x_get (pc := 375) dX10_doesOf_375 kf_RX10_123 h.1.s rfl ?_
        rw [up2_s]
        refine x_aload_n (pc := 378) dX10_doesOf_378 rfl rfl ?_
        refine x_getr (pc := 379) dX10_doesOf_379 kf_RX10_101 h.1.s rfl h.1.f15 ?_
        refine x_iload_n (pc := 382) dX10_doesOf_382 rfl rfl ?_
        refine x_ialdn (pc := 383) (a := bi) dX10_doesOf_383 h.1.s15 (by omega) (by omega) ?_
        rw [up2_a (show M + 16 ≠ M by omega), hc bi hb]
        refine x_icmp_ne_f (pc := 384) (tgt := 391) dX10_doesOf_384 (by decide) (rfl) ?_
        refine x_iconst (pc := 387) (v := 0) dX10_doesOf_387 (by decide) ?_
        refine x_goto (pc := 388) (tgt := 393) dX10_doesOf_388 (by decide) ?_
        refine x_ireturn (pc := 393) dX10_doesOf_393 ⟨_, rfl, rfl⟩ ⟨Nat.le_refl _, Nat.le_refl _⟩ ?_
        have hd : deedN nb ki ve ce sto hu ta te lo (lnO o) bi = (0, (ce bi)) := by
          rw [hdN]
          simp [deedF, yDeed, dCome, show isOne 3 1 = false from by decide, Nat.not_le.mpr c25, Nat.not_le.mpr c39, show ¬ 0 < ve bi by omega]
        exact fin 0 _ hd
      · skip
        refine x_aload_n (pc := 176) dX10_doesOf_176 rfl rfl ?_
        refine x_get (pc := 177) dX10_doesOf_177 kf_RX10_95 h.1.s rfl ?_
        rw [hte]
        refine x_aload_n (pc := 180) dX10_doesOf_180 rfl rfl ?_
        refine x_getr (pc := 181) dX10_doesOf_181 kf_RX10_26 h.1.s rfl h.1.f1 ?_
        refine x_iload_n (pc := 184) dX10_doesOf_184 rfl rfl ?_
        refine x_ialdn (pc := 185) (a := bi) dX10_doesOf_185 h.1.s1 (by omega) (by omega) ?_
        rw [hve bi hb]
        refine x_iremn (pc := 186) (a := te) (b := (ve bi)) dX10_doesOf_186 (by omega) (by omega) (by omega) ?_
        have hml := Nat.mod_lt te c173
        refine x_ifn_ne (pc := 187) (tgt := 194) (a := (te % (ve bi))) dX10_doesOf_187 (by decide) (by omega) (fun c187 => ?_) (fun c187 => ?_)
        · skip
          refine x_iload (pc := 194) dX10_doesOf_194 rfl ?_
          refine x_istore (pc := 196) (lv' := [(0, .ref M), (1, .int (nI bi)), (2, .int (nI (far (ce bi) ta))), (3, .int 0), (4, .int 0), (5, .int (nI (yPk nb ce ta (ce bi) 4))), (6, .int (nI (cPk nb ce true ta ta (ce bi) 4))), (7, .int 0)]) dX10_doesOf_196 (by decide) rfl ?_
          refine x_goto (pc := 198) (tgt := 320) dX10_doesOf_198 (by decide) ?_
          refine x_aload_n (pc := 320) dX10_doesOf_320 rfl rfl ?_
          refine x_iload (pc := 321) dX10_doesOf_321 rfl ?_
          refine x_iconst (pc := 323) (v := 1) dX10_doesOf_323 (by decide) ?_
          refine x_icmp_ne_t (pc := 324) (tgt := 332) dX10_doesOf_324 (by decide) (by decide) ?_
          refine x_iload (pc := 332) dX10_doesOf_332 rfl ?_
          refine x_iconst (pc := 334) (v := 2) dX10_doesOf_334 (by decide) ?_
          refine x_icmp_ne_t (pc := 335) (tgt := 343) dX10_doesOf_335 (by decide) (by decide) ?_
          refine x_iload (pc := 343) dX10_doesOf_343 rfl ?_
          refine x_iconst (pc := 345) (v := 3) dX10_doesOf_345 (by decide) ?_
          refine x_icmp_ne_t (pc := 346) (tgt := 365) dX10_doesOf_346 (by decide) (by decide) ?_
          refine x_aload_n (pc := 365) dX10_doesOf_365 rfl rfl ?_
          refine x_getr (pc := 366) dX10_doesOf_366 kf_RX10_101 h.1.s rfl h.1.f15 ?_
          refine x_iload_n (pc := 369) dX10_doesOf_369 rfl rfl ?_
          refine x_ialdn (pc := 370) (a := bi) dX10_doesOf_370 h.1.s15 (by omega) (by omega) ?_
          rw [hc bi hb]
          refine x_put (pc := 371) dX10_doesOf_371 kf_RX10_123 h.1.s rfl (Or.inl kb_10_37) ?_
          refine x_aload_n (pc := 374) dX10_doesOf_374 rfl rfl ?_
          refine x_get (pc := 375) dX10_doesOf_375 kf_RX10_123 h.1.s rfl ?_
          rw [up2_s]
          refine x_aload_n (pc := 378) dX10_doesOf_378 rfl rfl ?_
          refine x_getr (pc := 379) dX10_doesOf_379 kf_RX10_101 h.1.s rfl h.1.f15 ?_
          refine x_iload_n (pc := 382) dX10_doesOf_382 rfl rfl ?_
          refine x_ialdn (pc := 383) (a := bi) dX10_doesOf_383 h.1.s15 (by omega) (by omega) ?_
          rw [up2_a (show M + 16 ≠ M by omega), hc bi hb]
          refine x_icmp_ne_f (pc := 384) (tgt := 391) dX10_doesOf_384 (by decide) (rfl) ?_
          refine x_iconst (pc := 387) (v := 0) dX10_doesOf_387 (by decide) ?_
          refine x_goto (pc := 388) (tgt := 393) dX10_doesOf_388 (by decide) ?_
          refine x_ireturn (pc := 393) dX10_doesOf_393 ⟨_, rfl, rfl⟩ ⟨Nat.le_refl _, Nat.le_refl _⟩ ?_
          have hd : deedN nb ki ve ce sto hu ta te lo (lnO o) bi = (0, (ce bi)) := by
            rw [hdN]
            simp [deedF, yDeed, dCome, show isOne 3 1 = false from by decide, Nat.not_le.mpr c25, Nat.not_le.mpr c39, c173, c187]
          exact fin 0 _ hd
        · skip
          refine x_iconst (pc := 190) (v := 0) dX10_doesOf_190 (by decide) ?_
          refine x_goto (pc := 191) (tgt := 196) dX10_doesOf_191 (by decide) ?_
          refine x_istore (pc := 196) (lv' := [(0, .ref M), (1, .int (nI bi)), (2, .int (nI (far (ce bi) ta))), (3, .int 0), (4, .int 0), (5, .int (nI (yPk nb ce ta (ce bi) 4))), (6, .int (nI (cPk nb ce true ta ta (ce bi) 4))), (7, .int 0)]) dX10_doesOf_196 (by decide) rfl ?_
          refine x_goto (pc := 198) (tgt := 320) dX10_doesOf_198 (by decide) ?_
          refine x_aload_n (pc := 320) dX10_doesOf_320 rfl rfl ?_
          refine x_iload (pc := 321) dX10_doesOf_321 rfl ?_
          refine x_iconst (pc := 323) (v := 1) dX10_doesOf_323 (by decide) ?_
          refine x_icmp_ne_t (pc := 324) (tgt := 332) dX10_doesOf_324 (by decide) (by decide) ?_
          refine x_iload (pc := 332) dX10_doesOf_332 rfl ?_
          refine x_iconst (pc := 334) (v := 2) dX10_doesOf_334 (by decide) ?_
          refine x_icmp_ne_t (pc := 335) (tgt := 343) dX10_doesOf_335 (by decide) (by decide) ?_
          refine x_iload (pc := 343) dX10_doesOf_343 rfl ?_
          refine x_iconst (pc := 345) (v := 3) dX10_doesOf_345 (by decide) ?_
          refine x_icmp_ne_t (pc := 346) (tgt := 365) dX10_doesOf_346 (by decide) (by decide) ?_
          refine x_aload_n (pc := 365) dX10_doesOf_365 rfl rfl ?_
          refine x_getr (pc := 366) dX10_doesOf_366 kf_RX10_101 h.1.s rfl h.1.f15 ?_
          refine x_iload_n (pc := 369) dX10_doesOf_369 rfl rfl ?_
          refine x_ialdn (pc := 370) (a := bi) dX10_doesOf_370 h.1.s15 (by omega) (by omega) ?_
          rw [hc bi hb]
          refine x_put (pc := 371) dX10_doesOf_371 kf_RX10_123 h.1.s rfl (Or.inl kb_10_37) ?_
          refine x_aload_n (pc := 374) dX10_doesOf_374 rfl rfl ?_
          refine x_get (pc := 375) dX10_doesOf_375 kf_RX10_123 h.1.s rfl ?_
          rw [up2_s]
          refine x_aload_n (pc := 378) dX10_doesOf_378 rfl rfl ?_
          refine x_getr (pc := 379) dX10_doesOf_379 kf_RX10_101 h.1.s rfl h.1.f15 ?_
          refine x_iload_n (pc := 382) dX10_doesOf_382 rfl rfl ?_
          refine x_ialdn (pc := 383) (a := bi) dX10_doesOf_383 h.1.s15 (by omega) (by omega) ?_
          rw [up2_a (show M + 16 ≠ M by omega), hc bi hb]
          refine x_icmp_ne_f (pc := 384) (tgt := 391) dX10_doesOf_384 (by decide) (rfl) ?_
          refine x_iconst (pc := 387) (v := 0) dX10_doesOf_387 (by decide) ?_
          refine x_goto (pc := 388) (tgt := 393) dX10_doesOf_388 (by decide) ?_
          refine x_ireturn (pc := 393) dX10_doesOf_393 ⟨_, rfl, rfl⟩ ⟨Nat.le_refl _, Nat.le_refl _⟩ ?_
          have hd : deedN nb ki ve ce sto hu ta te lo (lnO o) bi = (0, (ce bi)) := by
            rw [hdN]
            simp [deedF, yDeed, dCome, show isOne 3 1 = false from by decide, Nat.not_le.mpr c25, Nat.not_le.mpr c39, c173, c187]
          exact fin 0 _ hd
    · skip
      refine x_iconst (pc := 42) (v := 1) dX10_doesOf_42 (by decide) ?_
      refine x_goto (pc := 43) (tgt := 47) dX10_doesOf_43 (by decide) ?_
      refine x_istore (pc := 47) (lv' := [(0, .ref M), (1, .int (nI bi)), (2, .int (nI (far (ce bi) ta))), (3, .int 0), (4, .int 1)]) dX10_doesOf_47 (by decide) rfl ?_
      refine x_aload_n (pc := 49) dX10_doesOf_49 rfl rfl ?_
      refine x_iload_n (pc := 50) dX10_doesOf_50 rfl rfl ?_
      refine x_aload_n (pc := 51) dX10_doesOf_51 rfl rfl ?_
      refine x_get (pc := 52) dX10_doesOf_52 kf_RX10_92 h.1.s rfl ?_
      rw [hta]
      refine x_iconst (pc := 55) (v := 0) dX10_doesOf_55 (by decide) ?_
      refine x_iconst (pc := 56) (v := 1) dX10_doesOf_56 (by decide) ?_
      refine x_callV (pc := 57) (As := [.int _, .int _, .int _, .int _]) dX10_doesOf_57 km_X10_nextBy kv_X10_nextBy kl_RX10_334 h.1.s rfl rfl (by decide) ⟨Nat.le_refl _, Nat.le_refl _⟩ rfl (Nat.le_of_ble_eq_true rfl) (Nat.le_of_ble_eq_true rfl) (m_nextBy_y h2 hb ht (⟨rfl, rfl, ?_⟩))
      rw [yPk2]
      refine x_istore (pc := 60) (lv' := [(0, .ref M), (1, .int (nI bi)), (2, .int (nI (far (ce bi) ta))), (3, .int 0), (4, .int 1), (5, .int (nI (yPk nb ce ta (ce bi) 4)))]) dX10_doesOf_60 (by decide) rfl ?_
      refine x_aload_n (pc := 62) dX10_doesOf_62 rfl rfl ?_
      refine x_iload_n (pc := 63) dX10_doesOf_63 rfl rfl ?_
      refine x_aload_n (pc := 64) dX10_doesOf_64 rfl rfl ?_
      refine x_get (pc := 65) dX10_doesOf_65 kf_RX10_92 h.1.s rfl ?_
      rw [hta]
      refine x_iconst (pc := 68) (v := 1) dX10_doesOf_68 (by decide) ?_
      refine x_iconst (pc := 69) (v := 0) dX10_doesOf_69 (by decide) ?_
      refine x_callV (pc := 70) (As := [.int _, .int _, .int _, .int _]) dX10_doesOf_70 km_X10_nextBy kv_X10_nextBy kl_RX10_334 h.1.s rfl rfl (by decide) ⟨Nat.le_refl _, Nat.le_refl _⟩ rfl (Nat.le_of_ble_eq_true rfl) (Nat.le_of_ble_eq_true rfl) (m_nextBy_c h2 hb ht (⟨rfl, rfl, ?_⟩))
      rw [show pick (cOk nb ce true ta) (cBet ta) (ce bi) 4 = cPk nb ce true ta ta (ce bi) 4 from rfl]
      refine x_istore (pc := 73) (lv' := [(0, .ref M), (1, .int (nI bi)), (2, .int (nI (far (ce bi) ta))), (3, .int 0), (4, .int 1), (5, .int (nI (yPk nb ce ta (ce bi) 4))), (6, .int (nI (cPk nb ce true ta ta (ce bi) 4)))]) dX10_doesOf_73 (by decide) rfl ?_
      refine x_aload_n (pc := 75) dX10_doesOf_75 rfl rfl ?_
      refine x_aload_n (pc := 76) dX10_doesOf_76 rfl rfl ?_
      refine x_getr (pc := 77) dX10_doesOf_77 kf_RX10_101 h.1.s rfl h.1.f15 ?_
      refine x_iload_n (pc := 80) dX10_doesOf_80 rfl rfl ?_
      refine x_ialdn (pc := 81) (a := bi) dX10_doesOf_81 h.1.s15 (by omega) (by omega) ?_
      rw [hc bi hb]
      refine x_put (pc := 82) dX10_doesOf_82 kf_RX10_123 h.1.s rfl (Or.inl kb_10_37) ?_
      have h3 := h2.keep (mdFr.fld (k := 37) (x := nI (ce bi)) (by omega))
      obtain ⟨hM, hn6, hnb, hki, hve, hc, hsto, hhu, hbd, hta, ht, hte, hte2, hlo, hlo2, hln⟩ := id h3
      have fin : ∀ d z, deedN nb ki ve ce sto hu ta te lo (lnO o) bi = (d, z) → P (n, sh, 0, 0) (up2 (up2 I2 M 37 (nI (ce bi))) M 37 (nI z)) R L (some (.int (nI d))) := fun d z e => by
        have h9 := K _ (g1.tr ((mdFr.fld (k := 37) (x := nI (ce bi)) (by omega)).tr (mdFr.fld (k := 37) (x := nI z) (by omega)))) (by rw [e]; exact up2_s)
        rw [e] at h9
        exact h9
      refine x_iload_n (pc := 85) dX10_doesOf_85 rfl rfl ?_
      refine x_if_eq_t (pc := 86) (tgt := 93) dX10_doesOf_86 (by decide) (by decide) ?_
      refine x_iload (pc := 93) dX10_doesOf_93 rfl ?_
      refine x_if_eq_f (pc := 95) (tgt := 102) dX10_doesOf_95 (by decide) (by decide) ?_
      refine x_iconst (pc := 98) (v := 1) dX10_doesOf_98 (by decide) ?_
      refine x_goto (pc := 99) (tgt := 103) dX10_doesOf_99 (by decide) ?_
      refine x_istore (pc := 103) (lv' := [(0, .ref M), (1, .int (nI bi)), (2, .int (nI (far (ce bi) ta))), (3, .int 0), (4, .int 1), (5, .int (nI (yPk nb ce ta (ce bi) 4))), (6, .int (nI (cPk nb ce true ta ta (ce bi) 4))), (7, .int 1)]) dX10_doesOf_103 (by decide) rfl ?_
      refine x_aload_n (pc := 105) dX10_doesOf_105 rfl rfl ?_
      refine x_getr (pc := 106) dX10_doesOf_106 kf_RX10_104 h.1.s rfl h.1.f16 ?_
      refine x_iload_n (pc := 109) dX10_doesOf_109 rfl rfl ?_
      refine x_ialdn (pc := 110) (a := bi) dX10_doesOf_110 h.1.s16 (by omega) (by omega) ?_
      rw [hki bi hb, hk, show nI 3 = 3 from rfl]
      refine x_tsw (pc := 111) (dt := 320) [(1, 148), (2, 320), (3, 167), (4, 201), (5, 235), (6, 283)] dX10_doesOf_111 (by decide +kernel) (by decide) ?_
      refine xsw_c (fun h => absurd h (by decide)) (fun _ => ?_)
      refine xsw_c (fun h => absurd h (by decide)) (fun _ => ?_)
      refine xsw_c (fun _ => ?_) (fun h => absurd rfl h)
      refine x_aload_n (pc := 167) dX10_doesOf_167 rfl rfl ?_
      refine x_getr (pc := 168) dX10_doesOf_168 kf_RX10_26 h.1.s rfl h.1.f1 ?_
      refine x_iload_n (pc := 171) dX10_doesOf_171 rfl rfl ?_
      refine x_ialdn (pc := 172) (a := bi) dX10_doesOf_172 h.1.s1 (by omega) (by omega) ?_
      rw [hve bi hb]
      refine x_ifn_le (pc := 173) (tgt := 194) (a := (ve bi)) dX10_doesOf_173 (by decide) (by omega) (fun c173 => ?_) (fun c173 => ?_)
      · skip
        refine x_iload (pc := 194) dX10_doesOf_194 rfl ?_
        refine x_istore (pc := 196) (lv' := [(0, .ref M), (1, .int (nI bi)), (2, .int (nI (far (ce bi) ta))), (3, .int 0), (4, .int 1), (5, .int (nI (yPk nb ce ta (ce bi) 4))), (6, .int (nI (cPk nb ce true ta ta (ce bi) 4))), (7, .int 1)]) dX10_doesOf_196 (by decide) rfl ?_
        refine x_goto (pc := 198) (tgt := 320) dX10_doesOf_198 (by decide) ?_
        refine x_aload_n (pc := 320) dX10_doesOf_320 rfl rfl ?_
        refine x_iload (pc := 321) dX10_doesOf_321 rfl ?_
        refine x_iconst (pc := 323) (v := 1) dX10_doesOf_323 (by decide) ?_
        refine x_icmp_ne_f (pc := 324) (tgt := 332) dX10_doesOf_324 (by decide) (by decide) ?_
        refine x_iload (pc := 327) dX10_doesOf_327 rfl ?_
        refine x_goto (pc := 329) (tgt := 371) dX10_doesOf_329 (by decide) ?_
        refine x_put (pc := 371) dX10_doesOf_371 kf_RX10_123 h.1.s rfl (Or.inl kb_10_37) ?_
        refine x_aload_n (pc := 374) dX10_doesOf_374 rfl rfl ?_
        refine x_get (pc := 375) dX10_doesOf_375 kf_RX10_123 h.1.s rfl ?_
        rw [up2_s]
        refine x_aload_n (pc := 378) dX10_doesOf_378 rfl rfl ?_
        refine x_getr (pc := 379) dX10_doesOf_379 kf_RX10_101 h.1.s rfl h.1.f15 ?_
        refine x_iload_n (pc := 382) dX10_doesOf_382 rfl rfl ?_
        refine x_ialdn (pc := 383) (a := bi) dX10_doesOf_383 h.1.s15 (by omega) (by omega) ?_
        rw [up2_a (show M + 16 ≠ M by omega), hc bi hb]
        refine x_icmpn_ne (pc := 384) (tgt := 391) (a := (yPk nb ce ta (ce bi) 4)) (b := (ce bi)) dX10_doesOf_384 (by decide) (by omega) (by omega) (fun c384 => ?_) (fun c384 => ?_)
        · skip
          refine x_iload (pc := 391) dX10_doesOf_391 rfl ?_
          refine x_ireturn (pc := 393) dX10_doesOf_393 ⟨_, rfl, rfl⟩ ⟨Nat.le_refl _, Nat.le_refl _⟩ ?_
          have hd : deedN nb ki ve ce sto hu ta te lo (lnO o) bi = (1, (yPk nb ce ta (ce bi) 4)) := by
            rw [hdN]
            simp [deedF, yDeed, dCome, show isOne 3 1 = false from by decide, Nat.not_le.mpr c25, c39, c384, show ¬ 0 < ve bi by omega]
          exact fin 1 _ hd
        · skip
          refine x_iconst (pc := 387) (v := 0) dX10_doesOf_387 (by decide) ?_
          refine x_goto (pc := 388) (tgt := 393) dX10_doesOf_388 (by decide) ?_
          refine x_ireturn (pc := 393) dX10_doesOf_393 ⟨_, rfl, rfl⟩ ⟨Nat.le_refl _, Nat.le_refl _⟩ ?_
          have hd : deedN nb ki ve ce sto hu ta te lo (lnO o) bi = (0, (yPk nb ce ta (ce bi) 4)) := by
            rw [hdN]
            simp [deedF, yDeed, dCome, show isOne 3 1 = false from by decide, Nat.not_le.mpr c25, c39, c384, show ¬ 0 < ve bi by omega]
          exact fin 0 _ hd
      · skip
        refine x_aload_n (pc := 176) dX10_doesOf_176 rfl rfl ?_
        refine x_get (pc := 177) dX10_doesOf_177 kf_RX10_95 h.1.s rfl ?_
        rw [hte]
        refine x_aload_n (pc := 180) dX10_doesOf_180 rfl rfl ?_
        refine x_getr (pc := 181) dX10_doesOf_181 kf_RX10_26 h.1.s rfl h.1.f1 ?_
        refine x_iload_n (pc := 184) dX10_doesOf_184 rfl rfl ?_
        refine x_ialdn (pc := 185) (a := bi) dX10_doesOf_185 h.1.s1 (by omega) (by omega) ?_
        rw [hve bi hb]
        refine x_iremn (pc := 186) (a := te) (b := (ve bi)) dX10_doesOf_186 (by omega) (by omega) (by omega) ?_
        have hml := Nat.mod_lt te c173
        refine x_ifn_ne (pc := 187) (tgt := 194) (a := (te % (ve bi))) dX10_doesOf_187 (by decide) (by omega) (fun c187 => ?_) (fun c187 => ?_)
        · skip
          refine x_iload (pc := 194) dX10_doesOf_194 rfl ?_
          refine x_istore (pc := 196) (lv' := [(0, .ref M), (1, .int (nI bi)), (2, .int (nI (far (ce bi) ta))), (3, .int 0), (4, .int 1), (5, .int (nI (yPk nb ce ta (ce bi) 4))), (6, .int (nI (cPk nb ce true ta ta (ce bi) 4))), (7, .int 1)]) dX10_doesOf_196 (by decide) rfl ?_
          refine x_goto (pc := 198) (tgt := 320) dX10_doesOf_198 (by decide) ?_
          refine x_aload_n (pc := 320) dX10_doesOf_320 rfl rfl ?_
          refine x_iload (pc := 321) dX10_doesOf_321 rfl ?_
          refine x_iconst (pc := 323) (v := 1) dX10_doesOf_323 (by decide) ?_
          refine x_icmp_ne_f (pc := 324) (tgt := 332) dX10_doesOf_324 (by decide) (by decide) ?_
          refine x_iload (pc := 327) dX10_doesOf_327 rfl ?_
          refine x_goto (pc := 329) (tgt := 371) dX10_doesOf_329 (by decide) ?_
          refine x_put (pc := 371) dX10_doesOf_371 kf_RX10_123 h.1.s rfl (Or.inl kb_10_37) ?_
          refine x_aload_n (pc := 374) dX10_doesOf_374 rfl rfl ?_
          refine x_get (pc := 375) dX10_doesOf_375 kf_RX10_123 h.1.s rfl ?_
          rw [up2_s]
          refine x_aload_n (pc := 378) dX10_doesOf_378 rfl rfl ?_
          refine x_getr (pc := 379) dX10_doesOf_379 kf_RX10_101 h.1.s rfl h.1.f15 ?_
          refine x_iload_n (pc := 382) dX10_doesOf_382 rfl rfl ?_
          refine x_ialdn (pc := 383) (a := bi) dX10_doesOf_383 h.1.s15 (by omega) (by omega) ?_
          rw [up2_a (show M + 16 ≠ M by omega), hc bi hb]
          refine x_icmpn_ne (pc := 384) (tgt := 391) (a := (yPk nb ce ta (ce bi) 4)) (b := (ce bi)) dX10_doesOf_384 (by decide) (by omega) (by omega) (fun c384 => ?_) (fun c384 => ?_)
          · skip
            refine x_iload (pc := 391) dX10_doesOf_391 rfl ?_
            refine x_ireturn (pc := 393) dX10_doesOf_393 ⟨_, rfl, rfl⟩ ⟨Nat.le_refl _, Nat.le_refl _⟩ ?_
            have hd : deedN nb ki ve ce sto hu ta te lo (lnO o) bi = (1, (yPk nb ce ta (ce bi) 4)) := by
              rw [hdN]
              simp [deedF, yDeed, dCome, show isOne 3 1 = false from by decide, Nat.not_le.mpr c25, c39, c173, c187, c384]
            exact fin 1 _ hd
          · skip
            refine x_iconst (pc := 387) (v := 0) dX10_doesOf_387 (by decide) ?_
            refine x_goto (pc := 388) (tgt := 393) dX10_doesOf_388 (by decide) ?_
            refine x_ireturn (pc := 393) dX10_doesOf_393 ⟨_, rfl, rfl⟩ ⟨Nat.le_refl _, Nat.le_refl _⟩ ?_
            have hd : deedN nb ki ve ce sto hu ta te lo (lnO o) bi = (0, (yPk nb ce ta (ce bi) 4)) := by
              rw [hdN]
              simp [deedF, yDeed, dCome, show isOne 3 1 = false from by decide, Nat.not_le.mpr c25, c39, c173, c187, c384]
            exact fin 0 _ hd
        · skip
          refine x_iconst (pc := 190) (v := 0) dX10_doesOf_190 (by decide) ?_
          refine x_goto (pc := 191) (tgt := 196) dX10_doesOf_191 (by decide) ?_
          refine x_istore (pc := 196) (lv' := [(0, .ref M), (1, .int (nI bi)), (2, .int (nI (far (ce bi) ta))), (3, .int 0), (4, .int 1), (5, .int (nI (yPk nb ce ta (ce bi) 4))), (6, .int (nI (cPk nb ce true ta ta (ce bi) 4))), (7, .int 0)]) dX10_doesOf_196 (by decide) rfl ?_
          refine x_goto (pc := 198) (tgt := 320) dX10_doesOf_198 (by decide) ?_
          refine x_aload_n (pc := 320) dX10_doesOf_320 rfl rfl ?_
          refine x_iload (pc := 321) dX10_doesOf_321 rfl ?_
          refine x_iconst (pc := 323) (v := 1) dX10_doesOf_323 (by decide) ?_
          refine x_icmp_ne_t (pc := 324) (tgt := 332) dX10_doesOf_324 (by decide) (by decide) ?_
          refine x_iload (pc := 332) dX10_doesOf_332 rfl ?_
          refine x_iconst (pc := 334) (v := 2) dX10_doesOf_334 (by decide) ?_
          refine x_icmp_ne_t (pc := 335) (tgt := 343) dX10_doesOf_335 (by decide) (by decide) ?_
          refine x_iload (pc := 343) dX10_doesOf_343 rfl ?_
          refine x_iconst (pc := 345) (v := 3) dX10_doesOf_345 (by decide) ?_
          refine x_icmp_ne_t (pc := 346) (tgt := 365) dX10_doesOf_346 (by decide) (by decide) ?_
          refine x_aload_n (pc := 365) dX10_doesOf_365 rfl rfl ?_
          refine x_getr (pc := 366) dX10_doesOf_366 kf_RX10_101 h.1.s rfl h.1.f15 ?_
          refine x_iload_n (pc := 369) dX10_doesOf_369 rfl rfl ?_
          refine x_ialdn (pc := 370) (a := bi) dX10_doesOf_370 h.1.s15 (by omega) (by omega) ?_
          rw [hc bi hb]
          refine x_put (pc := 371) dX10_doesOf_371 kf_RX10_123 h.1.s rfl (Or.inl kb_10_37) ?_
          refine x_aload_n (pc := 374) dX10_doesOf_374 rfl rfl ?_
          refine x_get (pc := 375) dX10_doesOf_375 kf_RX10_123 h.1.s rfl ?_
          rw [up2_s]
          refine x_aload_n (pc := 378) dX10_doesOf_378 rfl rfl ?_
          refine x_getr (pc := 379) dX10_doesOf_379 kf_RX10_101 h.1.s rfl h.1.f15 ?_
          refine x_iload_n (pc := 382) dX10_doesOf_382 rfl rfl ?_
          refine x_ialdn (pc := 383) (a := bi) dX10_doesOf_383 h.1.s15 (by omega) (by omega) ?_
          rw [up2_a (show M + 16 ≠ M by omega), hc bi hb]
          refine x_icmp_ne_f (pc := 384) (tgt := 391) dX10_doesOf_384 (by decide) (rfl) ?_
          refine x_iconst (pc := 387) (v := 0) dX10_doesOf_387 (by decide) ?_
          refine x_goto (pc := 388) (tgt := 393) dX10_doesOf_388 (by decide) ?_
          refine x_ireturn (pc := 393) dX10_doesOf_393 ⟨_, rfl, rfl⟩ ⟨Nat.le_refl _, Nat.le_refl _⟩ ?_
          have hd : deedN nb ki ve ce sto hu ta te lo (lnO o) bi = (0, (ce bi)) := by
            rw [hdN]
            simp [deedF, yDeed, dCome, show isOne 3 1 = false from by decide, Nat.not_le.mpr c25, c39, c173, c187]
          exact fin 0 _ hd
  · skip
    refine x_iconst (pc := 28) (v := 1) dX10_doesOf_28 (by decide) ?_
    refine x_goto (pc := 29) (tgt := 33) dX10_doesOf_29 (by decide) ?_
    refine x_istore_n (pc := 33) (lv' := [(0, .ref M), (1, .int (nI bi)), (2, .int (nI (far (ce bi) ta))), (3, .int 1)]) dX10_doesOf_33 rfl (by decide) rfl ?_
    refine x_iload_n (pc := 34) dX10_doesOf_34 rfl rfl ?_
    refine x_aload_n (pc := 35) dX10_doesOf_35 rfl rfl ?_
    refine x_get (pc := 36) dX10_doesOf_36 kf_RX10_117 h.1.s rfl ?_
    rw [y2]
    refine x_icmpn_gt (pc := 39) (tgt := 46) (a := (far (ce bi) ta)) (b := YV) dX10_doesOf_39 (by decide) (by omega) (by omega) (fun c39 => ?_) (fun c39 => ?_)
    · skip
      refine x_iconst (pc := 46) (v := 0) dX10_doesOf_46 (by decide) ?_
      refine x_istore (pc := 47) (lv' := [(0, .ref M), (1, .int (nI bi)), (2, .int (nI (far (ce bi) ta))), (3, .int 1), (4, .int 0)]) dX10_doesOf_47 (by decide) rfl ?_
      refine x_aload_n (pc := 49) dX10_doesOf_49 rfl rfl ?_
      refine x_iload_n (pc := 50) dX10_doesOf_50 rfl rfl ?_
      refine x_aload_n (pc := 51) dX10_doesOf_51 rfl rfl ?_
      refine x_get (pc := 52) dX10_doesOf_52 kf_RX10_92 h.1.s rfl ?_
      rw [hta]
      refine x_iconst (pc := 55) (v := 0) dX10_doesOf_55 (by decide) ?_
      refine x_iconst (pc := 56) (v := 1) dX10_doesOf_56 (by decide) ?_
      refine x_callV (pc := 57) (As := [.int _, .int _, .int _, .int _]) dX10_doesOf_57 km_X10_nextBy kv_X10_nextBy kl_RX10_334 h.1.s rfl rfl (by decide) ⟨Nat.le_refl _, Nat.le_refl _⟩ rfl (Nat.le_of_ble_eq_true rfl) (Nat.le_of_ble_eq_true rfl) (m_nextBy_y h2 hb ht (⟨rfl, rfl, ?_⟩))
      rw [yPk2]
      refine x_istore (pc := 60) (lv' := [(0, .ref M), (1, .int (nI bi)), (2, .int (nI (far (ce bi) ta))), (3, .int 1), (4, .int 0), (5, .int (nI (yPk nb ce ta (ce bi) 4)))]) dX10_doesOf_60 (by decide) rfl ?_
      refine x_aload_n (pc := 62) dX10_doesOf_62 rfl rfl ?_
      refine x_iload_n (pc := 63) dX10_doesOf_63 rfl rfl ?_
      refine x_aload_n (pc := 64) dX10_doesOf_64 rfl rfl ?_
      refine x_get (pc := 65) dX10_doesOf_65 kf_RX10_92 h.1.s rfl ?_
      rw [hta]
      refine x_iconst (pc := 68) (v := 1) dX10_doesOf_68 (by decide) ?_
      refine x_iconst (pc := 69) (v := 0) dX10_doesOf_69 (by decide) ?_
      refine x_callV (pc := 70) (As := [.int _, .int _, .int _, .int _]) dX10_doesOf_70 km_X10_nextBy kv_X10_nextBy kl_RX10_334 h.1.s rfl rfl (by decide) ⟨Nat.le_refl _, Nat.le_refl _⟩ rfl (Nat.le_of_ble_eq_true rfl) (Nat.le_of_ble_eq_true rfl) (m_nextBy_c h2 hb ht (⟨rfl, rfl, ?_⟩))
      rw [show pick (cOk nb ce true ta) (cBet ta) (ce bi) 4 = cPk nb ce true ta ta (ce bi) 4 from rfl]
      refine x_istore (pc := 73) (lv' := [(0, .ref M), (1, .int (nI bi)), (2, .int (nI (far (ce bi) ta))), (3, .int 1), (4, .int 0), (5, .int (nI (yPk nb ce ta (ce bi) 4))), (6, .int (nI (cPk nb ce true ta ta (ce bi) 4)))]) dX10_doesOf_73 (by decide) rfl ?_
      refine x_aload_n (pc := 75) dX10_doesOf_75 rfl rfl ?_
      refine x_aload_n (pc := 76) dX10_doesOf_76 rfl rfl ?_
      refine x_getr (pc := 77) dX10_doesOf_77 kf_RX10_101 h.1.s rfl h.1.f15 ?_
      refine x_iload_n (pc := 80) dX10_doesOf_80 rfl rfl ?_
      refine x_ialdn (pc := 81) (a := bi) dX10_doesOf_81 h.1.s15 (by omega) (by omega) ?_
      rw [hc bi hb]
      refine x_put (pc := 82) dX10_doesOf_82 kf_RX10_123 h.1.s rfl (Or.inl kb_10_37) ?_
      have h3 := h2.keep (mdFr.fld (k := 37) (x := nI (ce bi)) (by omega))
      obtain ⟨hM, hn6, hnb, hki, hve, hc, hsto, hhu, hbd, hta, ht, hte, hte2, hlo, hlo2, hln⟩ := id h3
      have fin : ∀ d z, deedN nb ki ve ce sto hu ta te lo (lnO o) bi = (d, z) → P (n, sh, 0, 0) (up2 (up2 I2 M 37 (nI (ce bi))) M 37 (nI z)) R L (some (.int (nI d))) := fun d z e => by
        have h9 := K _ (g1.tr ((mdFr.fld (k := 37) (x := nI (ce bi)) (by omega)).tr (mdFr.fld (k := 37) (x := nI z) (by omega)))) (by rw [e]; exact up2_s)
        rw [e] at h9
        exact h9
      refine x_iload_n (pc := 85) dX10_doesOf_85 rfl rfl ?_
      refine x_if_eq_f (pc := 86) (tgt := 93) dX10_doesOf_86 (by decide) (by decide) ?_
      refine x_iconst (pc := 89) (v := 2) dX10_doesOf_89 (by decide) ?_
      refine x_goto (pc := 90) (tgt := 103) dX10_doesOf_90 (by decide) ?_
      refine x_istore (pc := 103) (lv' := [(0, .ref M), (1, .int (nI bi)), (2, .int (nI (far (ce bi) ta))), (3, .int 1), (4, .int 0), (5, .int (nI (yPk nb ce ta (ce bi) 4))), (6, .int (nI (cPk nb ce true ta ta (ce bi) 4))), (7, .int 2)]) dX10_doesOf_103 (by decide) rfl ?_
      refine x_aload_n (pc := 105) dX10_doesOf_105 rfl rfl ?_
      refine x_getr (pc := 106) dX10_doesOf_106 kf_RX10_104 h.1.s rfl h.1.f16 ?_
      refine x_iload_n (pc := 109) dX10_doesOf_109 rfl rfl ?_
      refine x_ialdn (pc := 110) (a := bi) dX10_doesOf_110 h.1.s16 (by omega) (by omega) ?_
      rw [hki bi hb, hk, show nI 3 = 3 from rfl]
      refine x_tsw (pc := 111) (dt := 320) [(1, 148), (2, 320), (3, 167), (4, 201), (5, 235), (6, 283)] dX10_doesOf_111 (by decide +kernel) (by decide) ?_
      refine xsw_c (fun h => absurd h (by decide)) (fun _ => ?_)
      refine xsw_c (fun h => absurd h (by decide)) (fun _ => ?_)
      refine xsw_c (fun _ => ?_) (fun h => absurd rfl h)
      refine x_aload_n (pc := 167) dX10_doesOf_167 rfl rfl ?_
      refine x_getr (pc := 168) dX10_doesOf_168 kf_RX10_26 h.1.s rfl h.1.f1 ?_
      refine x_iload_n (pc := 171) dX10_doesOf_171 rfl rfl ?_
      refine x_ialdn (pc := 172) (a := bi) dX10_doesOf_172 h.1.s1 (by omega) (by omega) ?_
      rw [hve bi hb]
      refine x_ifn_le (pc := 173) (tgt := 194) (a := (ve bi)) dX10_doesOf_173 (by decide) (by omega) (fun c173 => ?_) (fun c173 => ?_)
      · skip
        refine x_iload (pc := 194) dX10_doesOf_194 rfl ?_
        refine x_istore (pc := 196) (lv' := [(0, .ref M), (1, .int (nI bi)), (2, .int (nI (far (ce bi) ta))), (3, .int 1), (4, .int 0), (5, .int (nI (yPk nb ce ta (ce bi) 4))), (6, .int (nI (cPk nb ce true ta ta (ce bi) 4))), (7, .int 2)]) dX10_doesOf_196 (by decide) rfl ?_
        refine x_goto (pc := 198) (tgt := 320) dX10_doesOf_198 (by decide) ?_
        refine x_aload_n (pc := 320) dX10_doesOf_320 rfl rfl ?_
        refine x_iload (pc := 321) dX10_doesOf_321 rfl ?_
        refine x_iconst (pc := 323) (v := 1) dX10_doesOf_323 (by decide) ?_
        refine x_icmp_ne_t (pc := 324) (tgt := 332) dX10_doesOf_324 (by decide) (by decide) ?_
        refine x_iload (pc := 332) dX10_doesOf_332 rfl ?_
        refine x_iconst (pc := 334) (v := 2) dX10_doesOf_334 (by decide) ?_
        refine x_icmp_ne_f (pc := 335) (tgt := 343) dX10_doesOf_335 (by decide) (by decide) ?_
        refine x_iload (pc := 338) dX10_doesOf_338 rfl ?_
        refine x_goto (pc := 340) (tgt := 371) dX10_doesOf_340 (by decide) ?_
        refine x_put (pc := 371) dX10_doesOf_371 kf_RX10_123 h.1.s rfl (Or.inl kb_10_37) ?_
        refine x_aload_n (pc := 374) dX10_doesOf_374 rfl rfl ?_
        refine x_get (pc := 375) dX10_doesOf_375 kf_RX10_123 h.1.s rfl ?_
        rw [up2_s]
        refine x_aload_n (pc := 378) dX10_doesOf_378 rfl rfl ?_
        refine x_getr (pc := 379) dX10_doesOf_379 kf_RX10_101 h.1.s rfl h.1.f15 ?_
        refine x_iload_n (pc := 382) dX10_doesOf_382 rfl rfl ?_
        refine x_ialdn (pc := 383) (a := bi) dX10_doesOf_383 h.1.s15 (by omega) (by omega) ?_
        rw [up2_a (show M + 16 ≠ M by omega), hc bi hb]
        refine x_icmpn_ne (pc := 384) (tgt := 391) (a := (cPk nb ce true ta ta (ce bi) 4)) (b := (ce bi)) dX10_doesOf_384 (by decide) (by omega) (by omega) (fun c384 => ?_) (fun c384 => ?_)
        · skip
          refine x_iload (pc := 391) dX10_doesOf_391 rfl ?_
          refine x_ireturn (pc := 393) dX10_doesOf_393 ⟨_, rfl, rfl⟩ ⟨Nat.le_refl _, Nat.le_refl _⟩ ?_
          have hd : deedN nb ki ve ce sto hu ta te lo (lnO o) bi = (2, (cPk nb ce true ta ta (ce bi) 4)) := by
            rw [hdN]
            simp [deedF, yDeed, dCome, show isOne 3 1 = false from by decide, c25, Nat.not_le.mpr c39, c384, show ¬ 0 < ve bi by omega]
          exact fin 2 _ hd
        · skip
          refine x_iconst (pc := 387) (v := 0) dX10_doesOf_387 (by decide) ?_
          refine x_goto (pc := 388) (tgt := 393) dX10_doesOf_388 (by decide) ?_
          refine x_ireturn (pc := 393) dX10_doesOf_393 ⟨_, rfl, rfl⟩ ⟨Nat.le_refl _, Nat.le_refl _⟩ ?_
          have hd : deedN nb ki ve ce sto hu ta te lo (lnO o) bi = (0, (cPk nb ce true ta ta (ce bi) 4)) := by
            rw [hdN]
            simp [deedF, yDeed, dCome, show isOne 3 1 = false from by decide, c25, Nat.not_le.mpr c39, c384, show ¬ 0 < ve bi by omega]
          exact fin 0 _ hd
      · skip
        refine x_aload_n (pc := 176) dX10_doesOf_176 rfl rfl ?_
        refine x_get (pc := 177) dX10_doesOf_177 kf_RX10_95 h.1.s rfl ?_
        rw [hte]
        refine x_aload_n (pc := 180) dX10_doesOf_180 rfl rfl ?_
        refine x_getr (pc := 181) dX10_doesOf_181 kf_RX10_26 h.1.s rfl h.1.f1 ?_
        refine x_iload_n (pc := 184) dX10_doesOf_184 rfl rfl ?_
        refine x_ialdn (pc := 185) (a := bi) dX10_doesOf_185 h.1.s1 (by omega) (by omega) ?_
        rw [hve bi hb]
        refine x_iremn (pc := 186) (a := te) (b := (ve bi)) dX10_doesOf_186 (by omega) (by omega) (by omega) ?_
        have hml := Nat.mod_lt te c173
        refine x_ifn_ne (pc := 187) (tgt := 194) (a := (te % (ve bi))) dX10_doesOf_187 (by decide) (by omega) (fun c187 => ?_) (fun c187 => ?_)
        · skip
          refine x_iload (pc := 194) dX10_doesOf_194 rfl ?_
          refine x_istore (pc := 196) (lv' := [(0, .ref M), (1, .int (nI bi)), (2, .int (nI (far (ce bi) ta))), (3, .int 1), (4, .int 0), (5, .int (nI (yPk nb ce ta (ce bi) 4))), (6, .int (nI (cPk nb ce true ta ta (ce bi) 4))), (7, .int 2)]) dX10_doesOf_196 (by decide) rfl ?_
          refine x_goto (pc := 198) (tgt := 320) dX10_doesOf_198 (by decide) ?_
          refine x_aload_n (pc := 320) dX10_doesOf_320 rfl rfl ?_
          refine x_iload (pc := 321) dX10_doesOf_321 rfl ?_
          refine x_iconst (pc := 323) (v := 1) dX10_doesOf_323 (by decide) ?_
          refine x_icmp_ne_t (pc := 324) (tgt := 332) dX10_doesOf_324 (by decide) (by decide) ?_
          refine x_iload (pc := 332) dX10_doesOf_332 rfl ?_
          refine x_iconst (pc := 334) (v := 2) dX10_doesOf_334 (by decide) ?_
          refine x_icmp_ne_f (pc := 335) (tgt := 343) dX10_doesOf_335 (by decide) (by decide) ?_
          refine x_iload (pc := 338) dX10_doesOf_338 rfl ?_
          refine x_goto (pc := 340) (tgt := 371) dX10_doesOf_340 (by decide) ?_
          refine x_put (pc := 371) dX10_doesOf_371 kf_RX10_123 h.1.s rfl (Or.inl kb_10_37) ?_
          refine x_aload_n (pc := 374) dX10_doesOf_374 rfl rfl ?_
          refine x_get (pc := 375) dX10_doesOf_375 kf_RX10_123 h.1.s rfl ?_
          rw [up2_s]
          refine x_aload_n (pc := 378) dX10_doesOf_378 rfl rfl ?_
          refine x_getr (pc := 379) dX10_doesOf_379 kf_RX10_101 h.1.s rfl h.1.f15 ?_
          refine x_iload_n (pc := 382) dX10_doesOf_382 rfl rfl ?_
          refine x_ialdn (pc := 383) (a := bi) dX10_doesOf_383 h.1.s15 (by omega) (by omega) ?_
          rw [up2_a (show M + 16 ≠ M by omega), hc bi hb]
          refine x_icmpn_ne (pc := 384) (tgt := 391) (a := (cPk nb ce true ta ta (ce bi) 4)) (b := (ce bi)) dX10_doesOf_384 (by decide) (by omega) (by omega) (fun c384 => ?_) (fun c384 => ?_)
          · skip
            refine x_iload (pc := 391) dX10_doesOf_391 rfl ?_
            refine x_ireturn (pc := 393) dX10_doesOf_393 ⟨_, rfl, rfl⟩ ⟨Nat.le_refl _, Nat.le_refl _⟩ ?_
            have hd : deedN nb ki ve ce sto hu ta te lo (lnO o) bi = (2, (cPk nb ce true ta ta (ce bi) 4)) := by
              rw [hdN]
              simp [deedF, yDeed, dCome, show isOne 3 1 = false from by decide, c25, Nat.not_le.mpr c39, c173, c187, c384]
            exact fin 2 _ hd
          · skip
            refine x_iconst (pc := 387) (v := 0) dX10_doesOf_387 (by decide) ?_
            refine x_goto (pc := 388) (tgt := 393) dX10_doesOf_388 (by decide) ?_
            refine x_ireturn (pc := 393) dX10_doesOf_393 ⟨_, rfl, rfl⟩ ⟨Nat.le_refl _, Nat.le_refl _⟩ ?_
            have hd : deedN nb ki ve ce sto hu ta te lo (lnO o) bi = (0, (cPk nb ce true ta ta (ce bi) 4)) := by
              rw [hdN]
              simp [deedF, yDeed, dCome, show isOne 3 1 = false from by decide, c25, Nat.not_le.mpr c39, c173, c187, c384]
            exact fin 0 _ hd
        · skip
          refine x_iconst (pc := 190) (v := 0) dX10_doesOf_190 (by decide) ?_
          refine x_goto (pc := 191) (tgt := 196) dX10_doesOf_191 (by decide) ?_
          refine x_istore (pc := 196) (lv' := [(0, .ref M), (1, .int (nI bi)), (2, .int (nI (far (ce bi) ta))), (3, .int 1), (4, .int 0), (5, .int (nI (yPk nb ce ta (ce bi) 4))), (6, .int (nI (cPk nb ce true ta ta (ce bi) 4))), (7, .int 0)]) dX10_doesOf_196 (by decide) rfl ?_
          refine x_goto (pc := 198) (tgt := 320) dX10_doesOf_198 (by decide) ?_
          refine x_aload_n (pc := 320) dX10_doesOf_320 rfl rfl ?_
          refine x_iload (pc := 321) dX10_doesOf_321 rfl ?_
          refine x_iconst (pc := 323) (v := 1) dX10_doesOf_323 (by decide) ?_
          refine x_icmp_ne_t (pc := 324) (tgt := 332) dX10_doesOf_324 (by decide) (by decide) ?_
          refine x_iload (pc := 332) dX10_doesOf_332 rfl ?_
          refine x_iconst (pc := 334) (v := 2) dX10_doesOf_334 (by decide) ?_
          refine x_icmp_ne_t (pc := 335) (tgt := 343) dX10_doesOf_335 (by decide) (by decide) ?_
          refine x_iload (pc := 343) dX10_doesOf_343 rfl ?_
          refine x_iconst (pc := 345) (v := 3) dX10_doesOf_345 (by decide) ?_
          refine x_icmp_ne_t (pc := 346) (tgt := 365) dX10_doesOf_346 (by decide) (by decide) ?_
          refine x_aload_n (pc := 365) dX10_doesOf_365 rfl rfl ?_
          refine x_getr (pc := 366) dX10_doesOf_366 kf_RX10_101 h.1.s rfl h.1.f15 ?_
          refine x_iload_n (pc := 369) dX10_doesOf_369 rfl rfl ?_
          refine x_ialdn (pc := 370) (a := bi) dX10_doesOf_370 h.1.s15 (by omega) (by omega) ?_
          rw [hc bi hb]
          refine x_put (pc := 371) dX10_doesOf_371 kf_RX10_123 h.1.s rfl (Or.inl kb_10_37) ?_
          refine x_aload_n (pc := 374) dX10_doesOf_374 rfl rfl ?_
          refine x_get (pc := 375) dX10_doesOf_375 kf_RX10_123 h.1.s rfl ?_
          rw [up2_s]
          refine x_aload_n (pc := 378) dX10_doesOf_378 rfl rfl ?_
          refine x_getr (pc := 379) dX10_doesOf_379 kf_RX10_101 h.1.s rfl h.1.f15 ?_
          refine x_iload_n (pc := 382) dX10_doesOf_382 rfl rfl ?_
          refine x_ialdn (pc := 383) (a := bi) dX10_doesOf_383 h.1.s15 (by omega) (by omega) ?_
          rw [up2_a (show M + 16 ≠ M by omega), hc bi hb]
          refine x_icmp_ne_f (pc := 384) (tgt := 391) dX10_doesOf_384 (by decide) (rfl) ?_
          refine x_iconst (pc := 387) (v := 0) dX10_doesOf_387 (by decide) ?_
          refine x_goto (pc := 388) (tgt := 393) dX10_doesOf_388 (by decide) ?_
          refine x_ireturn (pc := 393) dX10_doesOf_393 ⟨_, rfl, rfl⟩ ⟨Nat.le_refl _, Nat.le_refl _⟩ ?_
          have hd : deedN nb ki ve ce sto hu ta te lo (lnO o) bi = (0, (ce bi)) := by
            rw [hdN]
            simp [deedF, yDeed, dCome, show isOne 3 1 = false from by decide, c25, Nat.not_le.mpr c39, c173, c187]
          exact fin 0 _ hd
    · skip
      refine x_iconst (pc := 42) (v := 1) dX10_doesOf_42 (by decide) ?_
      refine x_goto (pc := 43) (tgt := 47) dX10_doesOf_43 (by decide) ?_
      refine x_istore (pc := 47) (lv' := [(0, .ref M), (1, .int (nI bi)), (2, .int (nI (far (ce bi) ta))), (3, .int 1), (4, .int 1)]) dX10_doesOf_47 (by decide) rfl ?_
      refine x_aload_n (pc := 49) dX10_doesOf_49 rfl rfl ?_
      refine x_iload_n (pc := 50) dX10_doesOf_50 rfl rfl ?_
      refine x_aload_n (pc := 51) dX10_doesOf_51 rfl rfl ?_
      refine x_get (pc := 52) dX10_doesOf_52 kf_RX10_92 h.1.s rfl ?_
      rw [hta]
      refine x_iconst (pc := 55) (v := 0) dX10_doesOf_55 (by decide) ?_
      refine x_iconst (pc := 56) (v := 1) dX10_doesOf_56 (by decide) ?_
      refine x_callV (pc := 57) (As := [.int _, .int _, .int _, .int _]) dX10_doesOf_57 km_X10_nextBy kv_X10_nextBy kl_RX10_334 h.1.s rfl rfl (by decide) ⟨Nat.le_refl _, Nat.le_refl _⟩ rfl (Nat.le_of_ble_eq_true rfl) (Nat.le_of_ble_eq_true rfl) (m_nextBy_y h2 hb ht (⟨rfl, rfl, ?_⟩))
      rw [yPk2]
      refine x_istore (pc := 60) (lv' := [(0, .ref M), (1, .int (nI bi)), (2, .int (nI (far (ce bi) ta))), (3, .int 1), (4, .int 1), (5, .int (nI (yPk nb ce ta (ce bi) 4)))]) dX10_doesOf_60 (by decide) rfl ?_
      refine x_aload_n (pc := 62) dX10_doesOf_62 rfl rfl ?_
      refine x_iload_n (pc := 63) dX10_doesOf_63 rfl rfl ?_
      refine x_aload_n (pc := 64) dX10_doesOf_64 rfl rfl ?_
      refine x_get (pc := 65) dX10_doesOf_65 kf_RX10_92 h.1.s rfl ?_
      rw [hta]
      refine x_iconst (pc := 68) (v := 1) dX10_doesOf_68 (by decide) ?_
      refine x_iconst (pc := 69) (v := 0) dX10_doesOf_69 (by decide) ?_
      refine x_callV (pc := 70) (As := [.int _, .int _, .int _, .int _]) dX10_doesOf_70 km_X10_nextBy kv_X10_nextBy kl_RX10_334 h.1.s rfl rfl (by decide) ⟨Nat.le_refl _, Nat.le_refl _⟩ rfl (Nat.le_of_ble_eq_true rfl) (Nat.le_of_ble_eq_true rfl) (m_nextBy_c h2 hb ht (⟨rfl, rfl, ?_⟩))
      rw [show pick (cOk nb ce true ta) (cBet ta) (ce bi) 4 = cPk nb ce true ta ta (ce bi) 4 from rfl]
      refine x_istore (pc := 73) (lv' := [(0, .ref M), (1, .int (nI bi)), (2, .int (nI (far (ce bi) ta))), (3, .int 1), (4, .int 1), (5, .int (nI (yPk nb ce ta (ce bi) 4))), (6, .int (nI (cPk nb ce true ta ta (ce bi) 4)))]) dX10_doesOf_73 (by decide) rfl ?_
      refine x_aload_n (pc := 75) dX10_doesOf_75 rfl rfl ?_
      refine x_aload_n (pc := 76) dX10_doesOf_76 rfl rfl ?_
      refine x_getr (pc := 77) dX10_doesOf_77 kf_RX10_101 h.1.s rfl h.1.f15 ?_
      refine x_iload_n (pc := 80) dX10_doesOf_80 rfl rfl ?_
      refine x_ialdn (pc := 81) (a := bi) dX10_doesOf_81 h.1.s15 (by omega) (by omega) ?_
      rw [hc bi hb]
      refine x_put (pc := 82) dX10_doesOf_82 kf_RX10_123 h.1.s rfl (Or.inl kb_10_37) ?_
      have h3 := h2.keep (mdFr.fld (k := 37) (x := nI (ce bi)) (by omega))
      obtain ⟨hM, hn6, hnb, hki, hve, hc, hsto, hhu, hbd, hta, ht, hte, hte2, hlo, hlo2, hln⟩ := id h3
      have fin : ∀ d z, deedN nb ki ve ce sto hu ta te lo (lnO o) bi = (d, z) → P (n, sh, 0, 0) (up2 (up2 I2 M 37 (nI (ce bi))) M 37 (nI z)) R L (some (.int (nI d))) := fun d z e => by
        have h9 := K _ (g1.tr ((mdFr.fld (k := 37) (x := nI (ce bi)) (by omega)).tr (mdFr.fld (k := 37) (x := nI z) (by omega)))) (by rw [e]; exact up2_s)
        rw [e] at h9
        exact h9
      refine x_iload_n (pc := 85) dX10_doesOf_85 rfl rfl ?_
      refine x_if_eq_f (pc := 86) (tgt := 93) dX10_doesOf_86 (by decide) (by decide) ?_
      refine x_iconst (pc := 89) (v := 2) dX10_doesOf_89 (by decide) ?_
      refine x_goto (pc := 90) (tgt := 103) dX10_doesOf_90 (by decide) ?_
      refine x_istore (pc := 103) (lv' := [(0, .ref M), (1, .int (nI bi)), (2, .int (nI (far (ce bi) ta))), (3, .int 1), (4, .int 1), (5, .int (nI (yPk nb ce ta (ce bi) 4))), (6, .int (nI (cPk nb ce true ta ta (ce bi) 4))), (7, .int 2)]) dX10_doesOf_103 (by decide) rfl ?_
      refine x_aload_n (pc := 105) dX10_doesOf_105 rfl rfl ?_
      refine x_getr (pc := 106) dX10_doesOf_106 kf_RX10_104 h.1.s rfl h.1.f16 ?_
      refine x_iload_n (pc := 109) dX10_doesOf_109 rfl rfl ?_
      refine x_ialdn (pc := 110) (a := bi) dX10_doesOf_110 h.1.s16 (by omega) (by omega) ?_
      rw [hki bi hb, hk, show nI 3 = 3 from rfl]
      refine x_tsw (pc := 111) (dt := 320) [(1, 148), (2, 320), (3, 167), (4, 201), (5, 235), (6, 283)] dX10_doesOf_111 (by decide +kernel) (by decide) ?_
      refine xsw_c (fun h => absurd h (by decide)) (fun _ => ?_)
      refine xsw_c (fun h => absurd h (by decide)) (fun _ => ?_)
      refine xsw_c (fun _ => ?_) (fun h => absurd rfl h)
      refine x_aload_n (pc := 167) dX10_doesOf_167 rfl rfl ?_
      refine x_getr (pc := 168) dX10_doesOf_168 kf_RX10_26 h.1.s rfl h.1.f1 ?_
      refine x_iload_n (pc := 171) dX10_doesOf_171 rfl rfl ?_
      refine x_ialdn (pc := 172) (a := bi) dX10_doesOf_172 h.1.s1 (by omega) (by omega) ?_
      rw [hve bi hb]
      refine x_ifn_le (pc := 173) (tgt := 194) (a := (ve bi)) dX10_doesOf_173 (by decide) (by omega) (fun c173 => ?_) (fun c173 => ?_)
      · skip
        refine x_iload (pc := 194) dX10_doesOf_194 rfl ?_
        refine x_istore (pc := 196) (lv' := [(0, .ref M), (1, .int (nI bi)), (2, .int (nI (far (ce bi) ta))), (3, .int 1), (4, .int 1), (5, .int (nI (yPk nb ce ta (ce bi) 4))), (6, .int (nI (cPk nb ce true ta ta (ce bi) 4))), (7, .int 2)]) dX10_doesOf_196 (by decide) rfl ?_
        refine x_goto (pc := 198) (tgt := 320) dX10_doesOf_198 (by decide) ?_
        refine x_aload_n (pc := 320) dX10_doesOf_320 rfl rfl ?_
        refine x_iload (pc := 321) dX10_doesOf_321 rfl ?_
        refine x_iconst (pc := 323) (v := 1) dX10_doesOf_323 (by decide) ?_
        refine x_icmp_ne_t (pc := 324) (tgt := 332) dX10_doesOf_324 (by decide) (by decide) ?_
        refine x_iload (pc := 332) dX10_doesOf_332 rfl ?_
        refine x_iconst (pc := 334) (v := 2) dX10_doesOf_334 (by decide) ?_
        refine x_icmp_ne_f (pc := 335) (tgt := 343) dX10_doesOf_335 (by decide) (by decide) ?_
        refine x_iload (pc := 338) dX10_doesOf_338 rfl ?_
        refine x_goto (pc := 340) (tgt := 371) dX10_doesOf_340 (by decide) ?_
        refine x_put (pc := 371) dX10_doesOf_371 kf_RX10_123 h.1.s rfl (Or.inl kb_10_37) ?_
        refine x_aload_n (pc := 374) dX10_doesOf_374 rfl rfl ?_
        refine x_get (pc := 375) dX10_doesOf_375 kf_RX10_123 h.1.s rfl ?_
        rw [up2_s]
        refine x_aload_n (pc := 378) dX10_doesOf_378 rfl rfl ?_
        refine x_getr (pc := 379) dX10_doesOf_379 kf_RX10_101 h.1.s rfl h.1.f15 ?_
        refine x_iload_n (pc := 382) dX10_doesOf_382 rfl rfl ?_
        refine x_ialdn (pc := 383) (a := bi) dX10_doesOf_383 h.1.s15 (by omega) (by omega) ?_
        rw [up2_a (show M + 16 ≠ M by omega), hc bi hb]
        refine x_icmpn_ne (pc := 384) (tgt := 391) (a := (cPk nb ce true ta ta (ce bi) 4)) (b := (ce bi)) dX10_doesOf_384 (by decide) (by omega) (by omega) (fun c384 => ?_) (fun c384 => ?_)
        · skip
          refine x_iload (pc := 391) dX10_doesOf_391 rfl ?_
          refine x_ireturn (pc := 393) dX10_doesOf_393 ⟨_, rfl, rfl⟩ ⟨Nat.le_refl _, Nat.le_refl _⟩ ?_
          have hd : deedN nb ki ve ce sto hu ta te lo (lnO o) bi = (2, (cPk nb ce true ta ta (ce bi) 4)) := by
            rw [hdN]
            simp [deedF, yDeed, dCome, show isOne 3 1 = false from by decide, c25, c39, c384, show ¬ 0 < ve bi by omega]
          exact fin 2 _ hd
        · skip
          refine x_iconst (pc := 387) (v := 0) dX10_doesOf_387 (by decide) ?_
          refine x_goto (pc := 388) (tgt := 393) dX10_doesOf_388 (by decide) ?_
          refine x_ireturn (pc := 393) dX10_doesOf_393 ⟨_, rfl, rfl⟩ ⟨Nat.le_refl _, Nat.le_refl _⟩ ?_
          have hd : deedN nb ki ve ce sto hu ta te lo (lnO o) bi = (0, (cPk nb ce true ta ta (ce bi) 4)) := by
            rw [hdN]
            simp [deedF, yDeed, dCome, show isOne 3 1 = false from by decide, c25, c39, c384, show ¬ 0 < ve bi by omega]
          exact fin 0 _ hd
      · skip
        refine x_aload_n (pc := 176) dX10_doesOf_176 rfl rfl ?_
        refine x_get (pc := 177) dX10_doesOf_177 kf_RX10_95 h.1.s rfl ?_
        rw [hte]
        refine x_aload_n (pc := 180) dX10_doesOf_180 rfl rfl ?_
        refine x_getr (pc := 181) dX10_doesOf_181 kf_RX10_26 h.1.s rfl h.1.f1 ?_
        refine x_iload_n (pc := 184) dX10_doesOf_184 rfl rfl ?_
        refine x_ialdn (pc := 185) (a := bi) dX10_doesOf_185 h.1.s1 (by omega) (by omega) ?_
        rw [hve bi hb]
        refine x_iremn (pc := 186) (a := te) (b := (ve bi)) dX10_doesOf_186 (by omega) (by omega) (by omega) ?_
        have hml := Nat.mod_lt te c173
        refine x_ifn_ne (pc := 187) (tgt := 194) (a := (te % (ve bi))) dX10_doesOf_187 (by decide) (by omega) (fun c187 => ?_) (fun c187 => ?_)
        · skip
          refine x_iload (pc := 194) dX10_doesOf_194 rfl ?_
          refine x_istore (pc := 196) (lv' := [(0, .ref M), (1, .int (nI bi)), (2, .int (nI (far (ce bi) ta))), (3, .int 1), (4, .int 1), (5, .int (nI (yPk nb ce ta (ce bi) 4))), (6, .int (nI (cPk nb ce true ta ta (ce bi) 4))), (7, .int 2)]) dX10_doesOf_196 (by decide) rfl ?_
          refine x_goto (pc := 198) (tgt := 320) dX10_doesOf_198 (by decide) ?_
          refine x_aload_n (pc := 320) dX10_doesOf_320 rfl rfl ?_
          refine x_iload (pc := 321) dX10_doesOf_321 rfl ?_
          refine x_iconst (pc := 323) (v := 1) dX10_doesOf_323 (by decide) ?_
          refine x_icmp_ne_t (pc := 324) (tgt := 332) dX10_doesOf_324 (by decide) (by decide) ?_
          refine x_iload (pc := 332) dX10_doesOf_332 rfl ?_
          refine x_iconst (pc := 334) (v := 2) dX10_doesOf_334 (by decide) ?_
          refine x_icmp_ne_f (pc := 335) (tgt := 343) dX10_doesOf_335 (by decide) (by decide) ?_
          refine x_iload (pc := 338) dX10_doesOf_338 rfl ?_
          refine x_goto (pc := 340) (tgt := 371) dX10_doesOf_340 (by decide) ?_
          refine x_put (pc := 371) dX10_doesOf_371 kf_RX10_123 h.1.s rfl (Or.inl kb_10_37) ?_
          refine x_aload_n (pc := 374) dX10_doesOf_374 rfl rfl ?_
          refine x_get (pc := 375) dX10_doesOf_375 kf_RX10_123 h.1.s rfl ?_
          rw [up2_s]
          refine x_aload_n (pc := 378) dX10_doesOf_378 rfl rfl ?_
          refine x_getr (pc := 379) dX10_doesOf_379 kf_RX10_101 h.1.s rfl h.1.f15 ?_
          refine x_iload_n (pc := 382) dX10_doesOf_382 rfl rfl ?_
          refine x_ialdn (pc := 383) (a := bi) dX10_doesOf_383 h.1.s15 (by omega) (by omega) ?_
          rw [up2_a (show M + 16 ≠ M by omega), hc bi hb]
          refine x_icmpn_ne (pc := 384) (tgt := 391) (a := (cPk nb ce true ta ta (ce bi) 4)) (b := (ce bi)) dX10_doesOf_384 (by decide) (by omega) (by omega) (fun c384 => ?_) (fun c384 => ?_)
          · skip
            refine x_iload (pc := 391) dX10_doesOf_391 rfl ?_
            refine x_ireturn (pc := 393) dX10_doesOf_393 ⟨_, rfl, rfl⟩ ⟨Nat.le_refl _, Nat.le_refl _⟩ ?_
            have hd : deedN nb ki ve ce sto hu ta te lo (lnO o) bi = (2, (cPk nb ce true ta ta (ce bi) 4)) := by
              rw [hdN]
              simp [deedF, yDeed, dCome, show isOne 3 1 = false from by decide, c25, c39, c173, c187, c384]
            exact fin 2 _ hd
          · skip
            refine x_iconst (pc := 387) (v := 0) dX10_doesOf_387 (by decide) ?_
            refine x_goto (pc := 388) (tgt := 393) dX10_doesOf_388 (by decide) ?_
            refine x_ireturn (pc := 393) dX10_doesOf_393 ⟨_, rfl, rfl⟩ ⟨Nat.le_refl _, Nat.le_refl _⟩ ?_
            have hd : deedN nb ki ve ce sto hu ta te lo (lnO o) bi = (0, (cPk nb ce true ta ta (ce bi) 4)) := by
              rw [hdN]
              simp [deedF, yDeed, dCome, show isOne 3 1 = false from by decide, c25, c39, c173, c187, c384]
            exact fin 0 _ hd
        · skip
          refine x_iconst (pc := 190) (v := 0) dX10_doesOf_190 (by decide) ?_
          refine x_goto (pc := 191) (tgt := 196) dX10_doesOf_191 (by decide) ?_
          refine x_istore (pc := 196) (lv' := [(0, .ref M), (1, .int (nI bi)), (2, .int (nI (far (ce bi) ta))), (3, .int 1), (4, .int 1), (5, .int (nI (yPk nb ce ta (ce bi) 4))), (6, .int (nI (cPk nb ce true ta ta (ce bi) 4))), (7, .int 0)]) dX10_doesOf_196 (by decide) rfl ?_
          refine x_goto (pc := 198) (tgt := 320) dX10_doesOf_198 (by decide) ?_
          refine x_aload_n (pc := 320) dX10_doesOf_320 rfl rfl ?_
          refine x_iload (pc := 321) dX10_doesOf_321 rfl ?_
          refine x_iconst (pc := 323) (v := 1) dX10_doesOf_323 (by decide) ?_
          refine x_icmp_ne_t (pc := 324) (tgt := 332) dX10_doesOf_324 (by decide) (by decide) ?_
          refine x_iload (pc := 332) dX10_doesOf_332 rfl ?_
          refine x_iconst (pc := 334) (v := 2) dX10_doesOf_334 (by decide) ?_
          refine x_icmp_ne_t (pc := 335) (tgt := 343) dX10_doesOf_335 (by decide) (by decide) ?_
          refine x_iload (pc := 343) dX10_doesOf_343 rfl ?_
          refine x_iconst (pc := 345) (v := 3) dX10_doesOf_345 (by decide) ?_
          refine x_icmp_ne_t (pc := 346) (tgt := 365) dX10_doesOf_346 (by decide) (by decide) ?_
          refine x_aload_n (pc := 365) dX10_doesOf_365 rfl rfl ?_
          refine x_getr (pc := 366) dX10_doesOf_366 kf_RX10_101 h.1.s rfl h.1.f15 ?_
          refine x_iload_n (pc := 369) dX10_doesOf_369 rfl rfl ?_
          refine x_ialdn (pc := 370) (a := bi) dX10_doesOf_370 h.1.s15 (by omega) (by omega) ?_
          rw [hc bi hb]
          refine x_put (pc := 371) dX10_doesOf_371 kf_RX10_123 h.1.s rfl (Or.inl kb_10_37) ?_
          refine x_aload_n (pc := 374) dX10_doesOf_374 rfl rfl ?_
          refine x_get (pc := 375) dX10_doesOf_375 kf_RX10_123 h.1.s rfl ?_
          rw [up2_s]
          refine x_aload_n (pc := 378) dX10_doesOf_378 rfl rfl ?_
          refine x_getr (pc := 379) dX10_doesOf_379 kf_RX10_101 h.1.s rfl h.1.f15 ?_
          refine x_iload_n (pc := 382) dX10_doesOf_382 rfl rfl ?_
          refine x_ialdn (pc := 383) (a := bi) dX10_doesOf_383 h.1.s15 (by omega) (by omega) ?_
          rw [up2_a (show M + 16 ≠ M by omega), hc bi hb]
          refine x_icmp_ne_f (pc := 384) (tgt := 391) dX10_doesOf_384 (by decide) (rfl) ?_
          refine x_iconst (pc := 387) (v := 0) dX10_doesOf_387 (by decide) ?_
          refine x_goto (pc := 388) (tgt := 393) dX10_doesOf_388 (by decide) ?_
          refine x_ireturn (pc := 393) dX10_doesOf_393 ⟨_, rfl, rfl⟩ ⟨Nat.le_refl _, Nat.le_refl _⟩ ?_
          have hd : deedN nb ki ve ce sto hu ta te lo (lnO o) bi = (0, (ce bi)) := by
            rw [hdN]
            simp [deedF, yDeed, dCome, show isOne 3 1 = false from by decide, c25, c39, c173, c187]
          exact fin 0 _ hd

set_option maxHeartbeats 4000000 in
set_option maxRecDepth 100000 in
theorem m_doesOf_4 {T : xT} {n : Nat} {sh : Nat → Nat × Nat} {I : xI} {R : xR} {L : xL} {P : xPost} {M nb ta te lo : Nat} {ki ve ce sto hu : Nat → Nat} {o : Option xAR} {bi : Nat} (h : MS sh R I M nb ki ve ce sto hu ta te lo o) (hb : bi < nb) (hk : ki bi = 4) (K : ∀ I2 : xI, mdFr M I I2 → I2 M 37 = nI (deedN nb ki ve ce sto hu ta te lo (lnO o) bi).2 → P (n, sh, 0, 0) I2 R L (some (.int (nI (deedN nb ki ve ce sto hu ta te lo (lnO o) bi).1)))) : XM T zX10_doesOf 4 [.ref M, .int (nI bi)] n sh I R L P := by
  have hM0 := h.1
  refine x_aload_n (pc := 0) dX10_doesOf_0 rfl rfl ?_
  refine x_iload_n (pc := 1) dX10_doesOf_1 rfl rfl ?_
  refine x_callV (pc := 2) (As := [.int _]) dX10_doesOf_2 km_X10_layLines kv_X10_layLines kl_RX10_331 h.1.s rfl rfl (by decide) ⟨Nat.le_refl _, Nat.le_refl _⟩ rfl (Nat.le_of_ble_eq_true rfl) (Nat.le_of_ble_eq_true rfl) (m_layLines h hb (fun I2 g1 y2 c2 => ⟨rfl, rfl, ?_⟩))
  have h2 := h.keep g1
  obtain ⟨hM, hn6, hnb, hki, hve, hc, hsto, hhu, hbd, hta, ht, hte, hte2, hlo, hlo2, hln⟩ := id h2
  have hce : ∀ i, i < nb → ce i < 36 := fun i hi => (hbd i hi).2.2.1
  obtain ⟨hk7, hv10, hc36, hs36, hu10⟩ := hbd bi hb
  have hfl := far_lt hc36 ht
  have hfs := far_lt hc36 hs36
  have hyl : ylOf (lnAt (lnO o) nb ce hu te bi) lo < 200 := by unfold ylOf; have := mn_le (a := (lnAt (lnO o) nb ce hu te bi).1) (b := 9); omega
  have hcl : clOf (lnAt (lnO o) nb ce hu te bi) (ki bi) (ve bi) lo < 200 := by unfold clOf; have h1 : cm (mn (lnAt (lnO o) nb ce hu te bi).1 9) (lnAt (lnO o) nb ce hu te bi).2 ≤ 9 := (by unfold cm; split; omega; have := mn_le (a := (lnAt (lnO o) nb ce hu te bi).1) (b := 9); have := mn_le (a := (lnAt (lnO o) nb ce hu te bi).2) (b := mn (lnAt (lnO o) nb ce hu te bi).1 9 - 1); omega); split <;> omega
  obtain ⟨YV, hYV⟩ : ∃ z, z = ylOf (lnAt (lnO o) nb ce hu te bi) lo := ⟨_, rfl⟩
  obtain ⟨CV, hCV⟩ : ∃ z, z = clOf (lnAt (lnO o) nb ce hu te bi) (ki bi) (ve bi) lo := ⟨_, rfl⟩
  rw [← hYV] at y2 hyl
  rw [← hCV] at c2 hcl
  have hdN : deedN nb ki ve ce sto hu ta te lo (lnO o) bi = deedF nb ce 4 (ve bi) (sto bi) ta te YV CV (ce bi) := by unfold deedN; rw [hYV, hCV, hk]
  have hy36 : yPk nb ce ta (ce bi) 4 < 36 := pick_lt hc36 4
  have hq36 : cPk nb ce true ta ta (ce bi) 4 < 36 := pick_lt hc36 4
  have hs4 : cPk nb ce false ta (sto bi) (ce bi) 4 < 36 := pick_lt hc36 4
  refine x_aload_n (pc := 5) dX10_doesOf_5 rfl rfl ?_
  refine x_aload_n (pc := 6) dX10_doesOf_6 rfl rfl ?_
  refine x_getr (pc := 7) dX10_doesOf_7 kf_RX10_101 h.1.s rfl h.1.f15 ?_
  refine x_iload_n (pc := 10) dX10_doesOf_10 rfl rfl ?_
  refine x_ialdn (pc := 11) (a := bi) dX10_doesOf_11 h.1.s15 (by omega) (by omega) ?_
  rw [hc bi hb]
  refine x_aload_n (pc := 12) dX10_doesOf_12 rfl rfl ?_
  refine x_get (pc := 13) dX10_doesOf_13 kf_RX10_92 h.1.s rfl ?_
  rw [hta]
  refine x_callV (pc := 16) (As := [.int _, .int _]) dX10_doesOf_16 km_X10_far kv_X10_far kl_RX10_301 h.1.s rfl rfl (by decide) ⟨Nat.le_refl _, Nat.le_refl _⟩ rfl (Nat.le_of_ble_eq_true rfl) (Nat.le_of_ble_eq_true rfl) (m_far h.1.s hc36 ht (⟨rfl, rfl, ?_⟩))
  refine x_istore_n (pc := 19) (lv' := [(0, .ref M), (1, .int (nI bi)), (2, .int (nI (far (ce bi) ta)))]) dX10_doesOf_19 rfl (by decide) rfl ?_
  refine x_iload_n (pc := 20) dX10_doesOf_20 rfl rfl ?_
  refine x_aload_n (pc := 21) dX10_doesOf_21 rfl rfl ?_
  refine x_get (pc := 22) dX10_doesOf_22 kf_RX10_120 h.1.s rfl ?_
  rw [c2]
  refine x_icmpn_gt (pc := 25) (tgt := 32) (a := (far (ce bi) ta)) (b := CV) dX10_doesOf_25 (by decide) (by omega) (by omega) (fun c25 => ?_) (fun c25 => ?_)
  · skip
    refine x_iconst (pc := 32) (v := 0) dX10_doesOf_32 (by decide) ?_
    refine x_istore_n (pc := 33) (lv' := [(0, .ref M), (1, .int (nI bi)), (2, .int (nI (far (ce bi) ta))), (3, .int 0)]) dX10_doesOf_33 rfl (by decide) rfl ?_
    refine x_iload_n (pc := 34) dX10_doesOf_34 rfl rfl ?_
    refine x_aload_n (pc := 35) dX10_doesOf_35 rfl rfl ?_
    refine x_get (pc := 36) dX10_doesOf_36 kf_RX10_117 h.1.s rfl ?_
    rw [y2]
    refine x_icmpn_gt (pc := 39) (tgt := 46) (a := (far (ce bi) ta)) (b := YV) dX10_doesOf_39 (by decide) (by omega) (by omega) (fun c39 => ?_) (fun c39 => ?_)
    · skip
      refine x_iconst (pc := 46) (v := 0) dX10_doesOf_46 (by decide) ?_
      refine x_istore (pc := 47) (lv' := [(0, .ref M), (1, .int (nI bi)), (2, .int (nI (far (ce bi) ta))), (3, .int 0), (4, .int 0)]) dX10_doesOf_47 (by decide) rfl ?_
      refine x_aload_n (pc := 49) dX10_doesOf_49 rfl rfl ?_
      refine x_iload_n (pc := 50) dX10_doesOf_50 rfl rfl ?_
      refine x_aload_n (pc := 51) dX10_doesOf_51 rfl rfl ?_
      refine x_get (pc := 52) dX10_doesOf_52 kf_RX10_92 h.1.s rfl ?_
      rw [hta]
      refine x_iconst (pc := 55) (v := 0) dX10_doesOf_55 (by decide) ?_
      refine x_iconst (pc := 56) (v := 1) dX10_doesOf_56 (by decide) ?_
      refine x_callV (pc := 57) (As := [.int _, .int _, .int _, .int _]) dX10_doesOf_57 km_X10_nextBy kv_X10_nextBy kl_RX10_334 h.1.s rfl rfl (by decide) ⟨Nat.le_refl _, Nat.le_refl _⟩ rfl (Nat.le_of_ble_eq_true rfl) (Nat.le_of_ble_eq_true rfl) (m_nextBy_y h2 hb ht (⟨rfl, rfl, ?_⟩))
      rw [yPk2]
      refine x_istore (pc := 60) (lv' := [(0, .ref M), (1, .int (nI bi)), (2, .int (nI (far (ce bi) ta))), (3, .int 0), (4, .int 0), (5, .int (nI (yPk nb ce ta (ce bi) 4)))]) dX10_doesOf_60 (by decide) rfl ?_
      refine x_aload_n (pc := 62) dX10_doesOf_62 rfl rfl ?_
      refine x_iload_n (pc := 63) dX10_doesOf_63 rfl rfl ?_
      refine x_aload_n (pc := 64) dX10_doesOf_64 rfl rfl ?_
      refine x_get (pc := 65) dX10_doesOf_65 kf_RX10_92 h.1.s rfl ?_
      rw [hta]
      refine x_iconst (pc := 68) (v := 1) dX10_doesOf_68 (by decide) ?_
      refine x_iconst (pc := 69) (v := 0) dX10_doesOf_69 (by decide) ?_
      refine x_callV (pc := 70) (As := [.int _, .int _, .int _, .int _]) dX10_doesOf_70 km_X10_nextBy kv_X10_nextBy kl_RX10_334 h.1.s rfl rfl (by decide) ⟨Nat.le_refl _, Nat.le_refl _⟩ rfl (Nat.le_of_ble_eq_true rfl) (Nat.le_of_ble_eq_true rfl) (m_nextBy_c h2 hb ht (⟨rfl, rfl, ?_⟩))
      rw [show pick (cOk nb ce true ta) (cBet ta) (ce bi) 4 = cPk nb ce true ta ta (ce bi) 4 from rfl]
      refine x_istore (pc := 73) (lv' := [(0, .ref M), (1, .int (nI bi)), (2, .int (nI (far (ce bi) ta))), (3, .int 0), (4, .int 0), (5, .int (nI (yPk nb ce ta (ce bi) 4))), (6, .int (nI (cPk nb ce true ta ta (ce bi) 4)))]) dX10_doesOf_73 (by decide) rfl ?_
      refine x_aload_n (pc := 75) dX10_doesOf_75 rfl rfl ?_
      refine x_aload_n (pc := 76) dX10_doesOf_76 rfl rfl ?_
      refine x_getr (pc := 77) dX10_doesOf_77 kf_RX10_101 h.1.s rfl h.1.f15 ?_
      refine x_iload_n (pc := 80) dX10_doesOf_80 rfl rfl ?_
      refine x_ialdn (pc := 81) (a := bi) dX10_doesOf_81 h.1.s15 (by omega) (by omega) ?_
      rw [hc bi hb]
      refine x_put (pc := 82) dX10_doesOf_82 kf_RX10_123 h.1.s rfl (Or.inl kb_10_37) ?_
      have h3 := h2.keep (mdFr.fld (k := 37) (x := nI (ce bi)) (by omega))
      obtain ⟨hM, hn6, hnb, hki, hve, hc, hsto, hhu, hbd, hta, ht, hte, hte2, hlo, hlo2, hln⟩ := id h3
      have fin : ∀ d z, deedN nb ki ve ce sto hu ta te lo (lnO o) bi = (d, z) → P (n, sh, 0, 0) (up2 (up2 I2 M 37 (nI (ce bi))) M 37 (nI z)) R L (some (.int (nI d))) := fun d z e => by
        have h9 := K _ (g1.tr ((mdFr.fld (k := 37) (x := nI (ce bi)) (by omega)).tr (mdFr.fld (k := 37) (x := nI z) (by omega)))) (by rw [e]; exact up2_s)
        rw [e] at h9
        exact h9
      refine x_iload_n (pc := 85) dX10_doesOf_85 rfl rfl ?_
      refine x_if_eq_t (pc := 86) (tgt := 93) dX10_doesOf_86 (by decide) (by decide) ?_
      refine x_iload (pc := 93) dX10_doesOf_93 rfl ?_
      refine x_if_eq_t (pc := 95) (tgt := 102) dX10_doesOf_95 (by decide) (by decide) ?_
      refine x_iconst (pc := 102) (v := 0) dX10_doesOf_102 (by decide) ?_
      refine x_istore (pc := 103) (lv' := [(0, .ref M), (1, .int (nI bi)), (2, .int (nI (far (ce bi) ta))), (3, .int 0), (4, .int 0), (5, .int (nI (yPk nb ce ta (ce bi) 4))), (6, .int (nI (cPk nb ce true ta ta (ce bi) 4))), (7, .int 0)]) dX10_doesOf_103 (by decide) rfl ?_
      refine x_aload_n (pc := 105) dX10_doesOf_105 rfl rfl ?_
      refine x_getr (pc := 106) dX10_doesOf_106 kf_RX10_104 h.1.s rfl h.1.f16 ?_
      refine x_iload_n (pc := 109) dX10_doesOf_109 rfl rfl ?_
      refine x_ialdn (pc := 110) (a := bi) dX10_doesOf_110 h.1.s16 (by omega) (by omega) ?_
      rw [hki bi hb, hk, show nI 4 = 4 from rfl]
      refine x_tsw (pc := 111) (dt := 320) [(1, 148), (2, 320), (3, 167), (4, 201), (5, 235), (6, 283)] dX10_doesOf_111 (by decide +kernel) (by decide) ?_
      refine xsw_c (fun h => absurd h (by decide)) (fun _ => ?_)
      refine xsw_c (fun h => absurd h (by decide)) (fun _ => ?_)
      refine xsw_c (fun h => absurd h (by decide)) (fun _ => ?_)
      refine xsw_c (fun _ => ?_) (fun h => absurd rfl h)
      refine x_iload_n (pc := 201) dX10_doesOf_201 rfl rfl ?_
      refine x_if_ne_f (pc := 202) (tgt := 210) dX10_doesOf_202 (by decide) (by decide) ?_
      refine x_iload (pc := 205) dX10_doesOf_205 rfl ?_
      refine x_if_eq_t (pc := 207) (tgt := 229) dX10_doesOf_207 (by decide) (by decide) ?_
      refine x_iconst (pc := 229) (v := 0) dX10_doesOf_229 (by decide) ?_
      refine x_istore (pc := 230) (lv' := [(0, .ref M), (1, .int (nI bi)), (2, .int (nI (far (ce bi) ta))), (3, .int 0), (4, .int 0), (5, .int (nI (yPk nb ce ta (ce bi) 4))), (6, .int (nI (cPk nb ce true ta ta (ce bi) 4))), (7, .int 0)]) dX10_doesOf_230 (by decide) rfl ?_
      refine x_goto (pc := 232) (tgt := 320) dX10_doesOf_232 (by decide) ?_
      refine x_aload_n (pc := 320) dX10_doesOf_320 rfl rfl ?_
      refine x_iload (pc := 321) dX10_doesOf_321 rfl ?_
      refine x_iconst (pc := 323) (v := 1) dX10_doesOf_323 (by decide) ?_
      refine x_icmp_ne_t (pc := 324) (tgt := 332) dX10_doesOf_324 (by decide) (by decide) ?_
      refine x_iload (pc := 332) dX10_doesOf_332 rfl ?_
      refine x_iconst (pc := 334) (v := 2) dX10_doesOf_334 (by decide) ?_
      refine x_icmp_ne_t (pc := 335) (tgt := 343) dX10_doesOf_335 (by decide) (by decide) ?_
      refine x_iload (pc := 343) dX10_doesOf_343 rfl ?_
      refine x_iconst (pc := 345) (v := 3) dX10_doesOf_345 (by decide) ?_
      refine x_icmp_ne_t (pc := 346) (tgt := 365) dX10_doesOf_346 (by decide) (by decide) ?_
      refine x_aload_n (pc := 365) dX10_doesOf_365 rfl rfl ?_
      refine x_getr (pc := 366) dX10_doesOf_366 kf_RX10_101 h.1.s rfl h.1.f15 ?_
      refine x_iload_n (pc := 369) dX10_doesOf_369 rfl rfl ?_
      refine x_ialdn (pc := 370) (a := bi) dX10_doesOf_370 h.1.s15 (by omega) (by omega) ?_
      rw [hc bi hb]
      refine x_put (pc := 371) dX10_doesOf_371 kf_RX10_123 h.1.s rfl (Or.inl kb_10_37) ?_
      refine x_aload_n (pc := 374) dX10_doesOf_374 rfl rfl ?_
      refine x_get (pc := 375) dX10_doesOf_375 kf_RX10_123 h.1.s rfl ?_
      rw [up2_s]
      refine x_aload_n (pc := 378) dX10_doesOf_378 rfl rfl ?_
      refine x_getr (pc := 379) dX10_doesOf_379 kf_RX10_101 h.1.s rfl h.1.f15 ?_
      refine x_iload_n (pc := 382) dX10_doesOf_382 rfl rfl ?_
      refine x_ialdn (pc := 383) (a := bi) dX10_doesOf_383 h.1.s15 (by omega) (by omega) ?_
      rw [up2_a (show M + 16 ≠ M by omega), hc bi hb]
      refine x_icmp_ne_f (pc := 384) (tgt := 391) dX10_doesOf_384 (by decide) (rfl) ?_
      refine x_iconst (pc := 387) (v := 0) dX10_doesOf_387 (by decide) ?_
      refine x_goto (pc := 388) (tgt := 393) dX10_doesOf_388 (by decide) ?_
      refine x_ireturn (pc := 393) dX10_doesOf_393 ⟨_, rfl, rfl⟩ ⟨Nat.le_refl _, Nat.le_refl _⟩ ?_
      have hd : deedN nb ki ve ce sto hu ta te lo (lnO o) bi = (0, (ce bi)) := by
        rw [hdN]
        simp [deedF, yDeed, dCome, show isOne 4 1 = true from by decide, Nat.not_le.mpr c25, Nat.not_le.mpr c39]
      exact fin 0 _ hd
    · skip
      refine x_iconst (pc := 42) (v := 1) dX10_doesOf_42 (by decide) ?_
      refine x_goto (pc := 43) (tgt := 47) dX10_doesOf_43 (by decide) ?_
      refine x_istore (pc := 47) (lv' := [(0, .ref M), (1, .int (nI bi)), (2, .int (nI (far (ce bi) ta))), (3, .int 0), (4, .int 1)]) dX10_doesOf_47 (by decide) rfl ?_
      refine x_aload_n (pc := 49) dX10_doesOf_49 rfl rfl ?_
      refine x_iload_n (pc := 50) dX10_doesOf_50 rfl rfl ?_
      refine x_aload_n (pc := 51) dX10_doesOf_51 rfl rfl ?_
      refine x_get (pc := 52) dX10_doesOf_52 kf_RX10_92 h.1.s rfl ?_
      rw [hta]
      refine x_iconst (pc := 55) (v := 0) dX10_doesOf_55 (by decide) ?_
      refine x_iconst (pc := 56) (v := 1) dX10_doesOf_56 (by decide) ?_
      refine x_callV (pc := 57) (As := [.int _, .int _, .int _, .int _]) dX10_doesOf_57 km_X10_nextBy kv_X10_nextBy kl_RX10_334 h.1.s rfl rfl (by decide) ⟨Nat.le_refl _, Nat.le_refl _⟩ rfl (Nat.le_of_ble_eq_true rfl) (Nat.le_of_ble_eq_true rfl) (m_nextBy_y h2 hb ht (⟨rfl, rfl, ?_⟩))
      rw [yPk2]
      refine x_istore (pc := 60) (lv' := [(0, .ref M), (1, .int (nI bi)), (2, .int (nI (far (ce bi) ta))), (3, .int 0), (4, .int 1), (5, .int (nI (yPk nb ce ta (ce bi) 4)))]) dX10_doesOf_60 (by decide) rfl ?_
      refine x_aload_n (pc := 62) dX10_doesOf_62 rfl rfl ?_
      refine x_iload_n (pc := 63) dX10_doesOf_63 rfl rfl ?_
      refine x_aload_n (pc := 64) dX10_doesOf_64 rfl rfl ?_
      refine x_get (pc := 65) dX10_doesOf_65 kf_RX10_92 h.1.s rfl ?_
      rw [hta]
      refine x_iconst (pc := 68) (v := 1) dX10_doesOf_68 (by decide) ?_
      refine x_iconst (pc := 69) (v := 0) dX10_doesOf_69 (by decide) ?_
      refine x_callV (pc := 70) (As := [.int _, .int _, .int _, .int _]) dX10_doesOf_70 km_X10_nextBy kv_X10_nextBy kl_RX10_334 h.1.s rfl rfl (by decide) ⟨Nat.le_refl _, Nat.le_refl _⟩ rfl (Nat.le_of_ble_eq_true rfl) (Nat.le_of_ble_eq_true rfl) (m_nextBy_c h2 hb ht (⟨rfl, rfl, ?_⟩))
      rw [show pick (cOk nb ce true ta) (cBet ta) (ce bi) 4 = cPk nb ce true ta ta (ce bi) 4 from rfl]
      refine x_istore (pc := 73) (lv' := [(0, .ref M), (1, .int (nI bi)), (2, .int (nI (far (ce bi) ta))), (3, .int 0), (4, .int 1), (5, .int (nI (yPk nb ce ta (ce bi) 4))), (6, .int (nI (cPk nb ce true ta ta (ce bi) 4)))]) dX10_doesOf_73 (by decide) rfl ?_
      refine x_aload_n (pc := 75) dX10_doesOf_75 rfl rfl ?_
      refine x_aload_n (pc := 76) dX10_doesOf_76 rfl rfl ?_
      refine x_getr (pc := 77) dX10_doesOf_77 kf_RX10_101 h.1.s rfl h.1.f15 ?_
      refine x_iload_n (pc := 80) dX10_doesOf_80 rfl rfl ?_
      refine x_ialdn (pc := 81) (a := bi) dX10_doesOf_81 h.1.s15 (by omega) (by omega) ?_
      rw [hc bi hb]
      refine x_put (pc := 82) dX10_doesOf_82 kf_RX10_123 h.1.s rfl (Or.inl kb_10_37) ?_
      have h3 := h2.keep (mdFr.fld (k := 37) (x := nI (ce bi)) (by omega))
      obtain ⟨hM, hn6, hnb, hki, hve, hc, hsto, hhu, hbd, hta, ht, hte, hte2, hlo, hlo2, hln⟩ := id h3
      have fin : ∀ d z, deedN nb ki ve ce sto hu ta te lo (lnO o) bi = (d, z) → P (n, sh, 0, 0) (up2 (up2 I2 M 37 (nI (ce bi))) M 37 (nI z)) R L (some (.int (nI d))) := fun d z e => by
        have h9 := K _ (g1.tr ((mdFr.fld (k := 37) (x := nI (ce bi)) (by omega)).tr (mdFr.fld (k := 37) (x := nI z) (by omega)))) (by rw [e]; exact up2_s)
        rw [e] at h9
        exact h9
      refine x_iload_n (pc := 85) dX10_doesOf_85 rfl rfl ?_
      refine x_if_eq_t (pc := 86) (tgt := 93) dX10_doesOf_86 (by decide) (by decide) ?_
      refine x_iload (pc := 93) dX10_doesOf_93 rfl ?_
      refine x_if_eq_f (pc := 95) (tgt := 102) dX10_doesOf_95 (by decide) (by decide) ?_
      refine x_iconst (pc := 98) (v := 1) dX10_doesOf_98 (by decide) ?_
      refine x_goto (pc := 99) (tgt := 103) dX10_doesOf_99 (by decide) ?_
      refine x_istore (pc := 103) (lv' := [(0, .ref M), (1, .int (nI bi)), (2, .int (nI (far (ce bi) ta))), (3, .int 0), (4, .int 1), (5, .int (nI (yPk nb ce ta (ce bi) 4))), (6, .int (nI (cPk nb ce true ta ta (ce bi) 4))), (7, .int 1)]) dX10_doesOf_103 (by decide) rfl ?_
      refine x_aload_n (pc := 105) dX10_doesOf_105 rfl rfl ?_
      refine x_getr (pc := 106) dX10_doesOf_106 kf_RX10_104 h.1.s rfl h.1.f16 ?_
      refine x_iload_n (pc := 109) dX10_doesOf_109 rfl rfl ?_
      refine x_ialdn (pc := 110) (a := bi) dX10_doesOf_110 h.1.s16 (by omega) (by omega) ?_
      rw [hki bi hb, hk, show nI 4 = 4 from rfl]
      refine x_tsw (pc := 111) (dt := 320) [(1, 148), (2, 320), (3, 167), (4, 201), (5, 235), (6, 283)] dX10_doesOf_111 (by decide +kernel) (by decide) ?_
      refine xsw_c (fun h => absurd h (by decide)) (fun _ => ?_)
      refine xsw_c (fun h => absurd h (by decide)) (fun _ => ?_)
      refine xsw_c (fun h => absurd h (by decide)) (fun _ => ?_)
      refine xsw_c (fun _ => ?_) (fun h => absurd rfl h)
      refine x_iload_n (pc := 201) dX10_doesOf_201 rfl rfl ?_
      refine x_if_ne_f (pc := 202) (tgt := 210) dX10_doesOf_202 (by decide) (by decide) ?_
      refine x_iload (pc := 205) dX10_doesOf_205 rfl ?_
      refine x_if_eq_f (pc := 207) (tgt := 229) dX10_doesOf_207 (by decide) (by decide) ?_
      refine x_iload (pc := 210) dX10_doesOf_210 rfl ?_
      refine x_aload_n (pc := 212) dX10_doesOf_212 rfl rfl ?_
      refine x_getr (pc := 213) dX10_doesOf_213 kf_RX10_101 h.1.s rfl h.1.f15 ?_
      refine x_iload_n (pc := 216) dX10_doesOf_216 rfl rfl ?_
      refine x_ialdn (pc := 217) (a := bi) dX10_doesOf_217 h.1.s15 (by omega) (by omega) ?_
      rw [hc bi hb]
      refine x_icmpn_ne (pc := 218) (tgt := 225) (a := (yPk nb ce ta (ce bi) 4)) (b := (ce bi)) dX10_doesOf_218 (by decide) (by omega) (by omega) (fun c218 => ?_) (fun c218 => ?_)
      · skip
        refine x_iconst (pc := 225) (v := 1) dX10_doesOf_225 (by decide) ?_
        refine x_goto (pc := 226) (tgt := 230) dX10_doesOf_226 (by decide) ?_
        refine x_istore (pc := 230) (lv' := [(0, .ref M), (1, .int (nI bi)), (2, .int (nI (far (ce bi) ta))), (3, .int 0), (4, .int 1), (5, .int (nI (yPk nb ce ta (ce bi) 4))), (6, .int (nI (cPk nb ce true ta ta (ce bi) 4))), (7, .int 1)]) dX10_doesOf_230 (by decide) rfl ?_
        refine x_goto (pc := 232) (tgt := 320) dX10_doesOf_232 (by decide) ?_
        refine x_aload_n (pc := 320) dX10_doesOf_320 rfl rfl ?_
        refine x_iload (pc := 321) dX10_doesOf_321 rfl ?_
        refine x_iconst (pc := 323) (v := 1) dX10_doesOf_323 (by decide) ?_
        refine x_icmp_ne_f (pc := 324) (tgt := 332) dX10_doesOf_324 (by decide) (by decide) ?_
        refine x_iload (pc := 327) dX10_doesOf_327 rfl ?_
        refine x_goto (pc := 329) (tgt := 371) dX10_doesOf_329 (by decide) ?_
        refine x_put (pc := 371) dX10_doesOf_371 kf_RX10_123 h.1.s rfl (Or.inl kb_10_37) ?_
        refine x_aload_n (pc := 374) dX10_doesOf_374 rfl rfl ?_
        refine x_get (pc := 375) dX10_doesOf_375 kf_RX10_123 h.1.s rfl ?_
        rw [up2_s]
        refine x_aload_n (pc := 378) dX10_doesOf_378 rfl rfl ?_
        refine x_getr (pc := 379) dX10_doesOf_379 kf_RX10_101 h.1.s rfl h.1.f15 ?_
        refine x_iload_n (pc := 382) dX10_doesOf_382 rfl rfl ?_
        refine x_ialdn (pc := 383) (a := bi) dX10_doesOf_383 h.1.s15 (by omega) (by omega) ?_
        rw [up2_a (show M + 16 ≠ M by omega), hc bi hb]
        refine x_icmpn_ne (pc := 384) (tgt := 391) (a := (yPk nb ce ta (ce bi) 4)) (b := (ce bi)) dX10_doesOf_384 (by decide) (by omega) (by omega) (fun c384 => ?_) (fun c384 => ?_)
        · skip
          refine x_iload (pc := 391) dX10_doesOf_391 rfl ?_
          refine x_ireturn (pc := 393) dX10_doesOf_393 ⟨_, rfl, rfl⟩ ⟨Nat.le_refl _, Nat.le_refl _⟩ ?_
          have hd : deedN nb ki ve ce sto hu ta te lo (lnO o) bi = (1, (yPk nb ce ta (ce bi) 4)) := by
            rw [hdN]
            simp [deedF, yDeed, dCome, show isOne 4 1 = true from by decide, Nat.not_le.mpr c25, c39, c218, c384]
          exact fin 1 _ hd
        · skip
          refine x_iconst (pc := 387) (v := 0) dX10_doesOf_387 (by decide) ?_
          refine x_goto (pc := 388) (tgt := 393) dX10_doesOf_388 (by decide) ?_
          refine x_ireturn (pc := 393) dX10_doesOf_393 ⟨_, rfl, rfl⟩ ⟨Nat.le_refl _, Nat.le_refl _⟩ ?_
          exact absurd c384 c218
      · skip
        refine x_iconst (pc := 221) (v := 2) dX10_doesOf_221 (by decide) ?_
        refine x_goto (pc := 222) (tgt := 230) dX10_doesOf_222 (by decide) ?_
        refine x_istore (pc := 230) (lv' := [(0, .ref M), (1, .int (nI bi)), (2, .int (nI (far (ce bi) ta))), (3, .int 0), (4, .int 1), (5, .int (nI (yPk nb ce ta (ce bi) 4))), (6, .int (nI (cPk nb ce true ta ta (ce bi) 4))), (7, .int 2)]) dX10_doesOf_230 (by decide) rfl ?_
        refine x_goto (pc := 232) (tgt := 320) dX10_doesOf_232 (by decide) ?_
        refine x_aload_n (pc := 320) dX10_doesOf_320 rfl rfl ?_
        refine x_iload (pc := 321) dX10_doesOf_321 rfl ?_
        refine x_iconst (pc := 323) (v := 1) dX10_doesOf_323 (by decide) ?_
        refine x_icmp_ne_t (pc := 324) (tgt := 332) dX10_doesOf_324 (by decide) (by decide) ?_
        refine x_iload (pc := 332) dX10_doesOf_332 rfl ?_
        refine x_iconst (pc := 334) (v := 2) dX10_doesOf_334 (by decide) ?_
        refine x_icmp_ne_f (pc := 335) (tgt := 343) dX10_doesOf_335 (by decide) (by decide) ?_
        refine x_iload (pc := 338) dX10_doesOf_338 rfl ?_
        refine x_goto (pc := 340) (tgt := 371) dX10_doesOf_340 (by decide) ?_
        refine x_put (pc := 371) dX10_doesOf_371 kf_RX10_123 h.1.s rfl (Or.inl kb_10_37) ?_
        refine x_aload_n (pc := 374) dX10_doesOf_374 rfl rfl ?_
        refine x_get (pc := 375) dX10_doesOf_375 kf_RX10_123 h.1.s rfl ?_
        rw [up2_s]
        refine x_aload_n (pc := 378) dX10_doesOf_378 rfl rfl ?_
        refine x_getr (pc := 379) dX10_doesOf_379 kf_RX10_101 h.1.s rfl h.1.f15 ?_
        refine x_iload_n (pc := 382) dX10_doesOf_382 rfl rfl ?_
        refine x_ialdn (pc := 383) (a := bi) dX10_doesOf_383 h.1.s15 (by omega) (by omega) ?_
        rw [up2_a (show M + 16 ≠ M by omega), hc bi hb]
        refine x_icmpn_ne (pc := 384) (tgt := 391) (a := (cPk nb ce true ta ta (ce bi) 4)) (b := (ce bi)) dX10_doesOf_384 (by decide) (by omega) (by omega) (fun c384 => ?_) (fun c384 => ?_)
        · skip
          refine x_iload (pc := 391) dX10_doesOf_391 rfl ?_
          refine x_ireturn (pc := 393) dX10_doesOf_393 ⟨_, rfl, rfl⟩ ⟨Nat.le_refl _, Nat.le_refl _⟩ ?_
          have hd : deedN nb ki ve ce sto hu ta te lo (lnO o) bi = (2, (cPk nb ce true ta ta (ce bi) 4)) := by
            rw [hdN]
            simp [deedF, yDeed, dCome, show isOne 4 1 = true from by decide, Nat.not_le.mpr c25, c39, c218, c384]
          exact fin 2 _ hd
        · skip
          refine x_iconst (pc := 387) (v := 0) dX10_doesOf_387 (by decide) ?_
          refine x_goto (pc := 388) (tgt := 393) dX10_doesOf_388 (by decide) ?_
          refine x_ireturn (pc := 393) dX10_doesOf_393 ⟨_, rfl, rfl⟩ ⟨Nat.le_refl _, Nat.le_refl _⟩ ?_
          have hd : deedN nb ki ve ce sto hu ta te lo (lnO o) bi = (0, (cPk nb ce true ta ta (ce bi) 4)) := by
            rw [hdN]
            simp [deedF, yDeed, dCome, show isOne 4 1 = true from by decide, Nat.not_le.mpr c25, c39, c218, c384]
          exact fin 0 _ hd
  · skip
    refine x_iconst (pc := 28) (v := 1) dX10_doesOf_28 (by decide) ?_
    refine x_goto (pc := 29) (tgt := 33) dX10_doesOf_29 (by decide) ?_
    refine x_istore_n (pc := 33) (lv' := [(0, .ref M), (1, .int (nI bi)), (2, .int (nI (far (ce bi) ta))), (3, .int 1)]) dX10_doesOf_33 rfl (by decide) rfl ?_
    refine x_iload_n (pc := 34) dX10_doesOf_34 rfl rfl ?_
    refine x_aload_n (pc := 35) dX10_doesOf_35 rfl rfl ?_
    refine x_get (pc := 36) dX10_doesOf_36 kf_RX10_117 h.1.s rfl ?_
    rw [y2]
    refine x_icmpn_gt (pc := 39) (tgt := 46) (a := (far (ce bi) ta)) (b := YV) dX10_doesOf_39 (by decide) (by omega) (by omega) (fun c39 => ?_) (fun c39 => ?_)
    · skip
      refine x_iconst (pc := 46) (v := 0) dX10_doesOf_46 (by decide) ?_
      refine x_istore (pc := 47) (lv' := [(0, .ref M), (1, .int (nI bi)), (2, .int (nI (far (ce bi) ta))), (3, .int 1), (4, .int 0)]) dX10_doesOf_47 (by decide) rfl ?_
      refine x_aload_n (pc := 49) dX10_doesOf_49 rfl rfl ?_
      refine x_iload_n (pc := 50) dX10_doesOf_50 rfl rfl ?_
      refine x_aload_n (pc := 51) dX10_doesOf_51 rfl rfl ?_
      refine x_get (pc := 52) dX10_doesOf_52 kf_RX10_92 h.1.s rfl ?_
      rw [hta]
      refine x_iconst (pc := 55) (v := 0) dX10_doesOf_55 (by decide) ?_
      refine x_iconst (pc := 56) (v := 1) dX10_doesOf_56 (by decide) ?_
      refine x_callV (pc := 57) (As := [.int _, .int _, .int _, .int _]) dX10_doesOf_57 km_X10_nextBy kv_X10_nextBy kl_RX10_334 h.1.s rfl rfl (by decide) ⟨Nat.le_refl _, Nat.le_refl _⟩ rfl (Nat.le_of_ble_eq_true rfl) (Nat.le_of_ble_eq_true rfl) (m_nextBy_y h2 hb ht (⟨rfl, rfl, ?_⟩))
      rw [yPk2]
      refine x_istore (pc := 60) (lv' := [(0, .ref M), (1, .int (nI bi)), (2, .int (nI (far (ce bi) ta))), (3, .int 1), (4, .int 0), (5, .int (nI (yPk nb ce ta (ce bi) 4)))]) dX10_doesOf_60 (by decide) rfl ?_
      refine x_aload_n (pc := 62) dX10_doesOf_62 rfl rfl ?_
      refine x_iload_n (pc := 63) dX10_doesOf_63 rfl rfl ?_
      refine x_aload_n (pc := 64) dX10_doesOf_64 rfl rfl ?_
      refine x_get (pc := 65) dX10_doesOf_65 kf_RX10_92 h.1.s rfl ?_
      rw [hta]
      refine x_iconst (pc := 68) (v := 1) dX10_doesOf_68 (by decide) ?_
      refine x_iconst (pc := 69) (v := 0) dX10_doesOf_69 (by decide) ?_
      refine x_callV (pc := 70) (As := [.int _, .int _, .int _, .int _]) dX10_doesOf_70 km_X10_nextBy kv_X10_nextBy kl_RX10_334 h.1.s rfl rfl (by decide) ⟨Nat.le_refl _, Nat.le_refl _⟩ rfl (Nat.le_of_ble_eq_true rfl) (Nat.le_of_ble_eq_true rfl) (m_nextBy_c h2 hb ht (⟨rfl, rfl, ?_⟩))
      rw [show pick (cOk nb ce true ta) (cBet ta) (ce bi) 4 = cPk nb ce true ta ta (ce bi) 4 from rfl]
      refine x_istore (pc := 73) (lv' := [(0, .ref M), (1, .int (nI bi)), (2, .int (nI (far (ce bi) ta))), (3, .int 1), (4, .int 0), (5, .int (nI (yPk nb ce ta (ce bi) 4))), (6, .int (nI (cPk nb ce true ta ta (ce bi) 4)))]) dX10_doesOf_73 (by decide) rfl ?_
      refine x_aload_n (pc := 75) dX10_doesOf_75 rfl rfl ?_
      refine x_aload_n (pc := 76) dX10_doesOf_76 rfl rfl ?_
      refine x_getr (pc := 77) dX10_doesOf_77 kf_RX10_101 h.1.s rfl h.1.f15 ?_
      refine x_iload_n (pc := 80) dX10_doesOf_80 rfl rfl ?_
      refine x_ialdn (pc := 81) (a := bi) dX10_doesOf_81 h.1.s15 (by omega) (by omega) ?_
      rw [hc bi hb]
      refine x_put (pc := 82) dX10_doesOf_82 kf_RX10_123 h.1.s rfl (Or.inl kb_10_37) ?_
      have h3 := h2.keep (mdFr.fld (k := 37) (x := nI (ce bi)) (by omega))
      obtain ⟨hM, hn6, hnb, hki, hve, hc, hsto, hhu, hbd, hta, ht, hte, hte2, hlo, hlo2, hln⟩ := id h3
      have fin : ∀ d z, deedN nb ki ve ce sto hu ta te lo (lnO o) bi = (d, z) → P (n, sh, 0, 0) (up2 (up2 I2 M 37 (nI (ce bi))) M 37 (nI z)) R L (some (.int (nI d))) := fun d z e => by
        have h9 := K _ (g1.tr ((mdFr.fld (k := 37) (x := nI (ce bi)) (by omega)).tr (mdFr.fld (k := 37) (x := nI z) (by omega)))) (by rw [e]; exact up2_s)
        rw [e] at h9
        exact h9
      refine x_iload_n (pc := 85) dX10_doesOf_85 rfl rfl ?_
      refine x_if_eq_f (pc := 86) (tgt := 93) dX10_doesOf_86 (by decide) (by decide) ?_
      refine x_iconst (pc := 89) (v := 2) dX10_doesOf_89 (by decide) ?_
      refine x_goto (pc := 90) (tgt := 103) dX10_doesOf_90 (by decide) ?_
      refine x_istore (pc := 103) (lv' := [(0, .ref M), (1, .int (nI bi)), (2, .int (nI (far (ce bi) ta))), (3, .int 1), (4, .int 0), (5, .int (nI (yPk nb ce ta (ce bi) 4))), (6, .int (nI (cPk nb ce true ta ta (ce bi) 4))), (7, .int 2)]) dX10_doesOf_103 (by decide) rfl ?_
      refine x_aload_n (pc := 105) dX10_doesOf_105 rfl rfl ?_
      refine x_getr (pc := 106) dX10_doesOf_106 kf_RX10_104 h.1.s rfl h.1.f16 ?_
      refine x_iload_n (pc := 109) dX10_doesOf_109 rfl rfl ?_
      refine x_ialdn (pc := 110) (a := bi) dX10_doesOf_110 h.1.s16 (by omega) (by omega) ?_
      rw [hki bi hb, hk, show nI 4 = 4 from rfl]
      refine x_tsw (pc := 111) (dt := 320) [(1, 148), (2, 320), (3, 167), (4, 201), (5, 235), (6, 283)] dX10_doesOf_111 (by decide +kernel) (by decide) ?_
      refine xsw_c (fun h => absurd h (by decide)) (fun _ => ?_)
      refine xsw_c (fun h => absurd h (by decide)) (fun _ => ?_)
      refine xsw_c (fun h => absurd h (by decide)) (fun _ => ?_)
      refine xsw_c (fun _ => ?_) (fun h => absurd rfl h)
      refine x_iload_n (pc := 201) dX10_doesOf_201 rfl rfl ?_
      refine x_if_ne_t (pc := 202) (tgt := 210) dX10_doesOf_202 (by decide) (by decide) ?_
      refine x_iload (pc := 210) dX10_doesOf_210 rfl ?_
      refine x_aload_n (pc := 212) dX10_doesOf_212 rfl rfl ?_
      refine x_getr (pc := 213) dX10_doesOf_213 kf_RX10_101 h.1.s rfl h.1.f15 ?_
      refine x_iload_n (pc := 216) dX10_doesOf_216 rfl rfl ?_
      refine x_ialdn (pc := 217) (a := bi) dX10_doesOf_217 h.1.s15 (by omega) (by omega) ?_
      rw [hc bi hb]
      refine x_icmpn_ne (pc := 218) (tgt := 225) (a := (yPk nb ce ta (ce bi) 4)) (b := (ce bi)) dX10_doesOf_218 (by decide) (by omega) (by omega) (fun c218 => ?_) (fun c218 => ?_)
      · skip
        refine x_iconst (pc := 225) (v := 1) dX10_doesOf_225 (by decide) ?_
        refine x_goto (pc := 226) (tgt := 230) dX10_doesOf_226 (by decide) ?_
        refine x_istore (pc := 230) (lv' := [(0, .ref M), (1, .int (nI bi)), (2, .int (nI (far (ce bi) ta))), (3, .int 1), (4, .int 0), (5, .int (nI (yPk nb ce ta (ce bi) 4))), (6, .int (nI (cPk nb ce true ta ta (ce bi) 4))), (7, .int 1)]) dX10_doesOf_230 (by decide) rfl ?_
        refine x_goto (pc := 232) (tgt := 320) dX10_doesOf_232 (by decide) ?_
        refine x_aload_n (pc := 320) dX10_doesOf_320 rfl rfl ?_
        refine x_iload (pc := 321) dX10_doesOf_321 rfl ?_
        refine x_iconst (pc := 323) (v := 1) dX10_doesOf_323 (by decide) ?_
        refine x_icmp_ne_f (pc := 324) (tgt := 332) dX10_doesOf_324 (by decide) (by decide) ?_
        refine x_iload (pc := 327) dX10_doesOf_327 rfl ?_
        refine x_goto (pc := 329) (tgt := 371) dX10_doesOf_329 (by decide) ?_
        refine x_put (pc := 371) dX10_doesOf_371 kf_RX10_123 h.1.s rfl (Or.inl kb_10_37) ?_
        refine x_aload_n (pc := 374) dX10_doesOf_374 rfl rfl ?_
        refine x_get (pc := 375) dX10_doesOf_375 kf_RX10_123 h.1.s rfl ?_
        rw [up2_s]
        refine x_aload_n (pc := 378) dX10_doesOf_378 rfl rfl ?_
        refine x_getr (pc := 379) dX10_doesOf_379 kf_RX10_101 h.1.s rfl h.1.f15 ?_
        refine x_iload_n (pc := 382) dX10_doesOf_382 rfl rfl ?_
        refine x_ialdn (pc := 383) (a := bi) dX10_doesOf_383 h.1.s15 (by omega) (by omega) ?_
        rw [up2_a (show M + 16 ≠ M by omega), hc bi hb]
        refine x_icmpn_ne (pc := 384) (tgt := 391) (a := (yPk nb ce ta (ce bi) 4)) (b := (ce bi)) dX10_doesOf_384 (by decide) (by omega) (by omega) (fun c384 => ?_) (fun c384 => ?_)
        · skip
          refine x_iload (pc := 391) dX10_doesOf_391 rfl ?_
          refine x_ireturn (pc := 393) dX10_doesOf_393 ⟨_, rfl, rfl⟩ ⟨Nat.le_refl _, Nat.le_refl _⟩ ?_
          have hd : deedN nb ki ve ce sto hu ta te lo (lnO o) bi = (1, (yPk nb ce ta (ce bi) 4)) := by
            rw [hdN]
            simp [deedF, yDeed, dCome, show isOne 4 1 = true from by decide, c25, Nat.not_le.mpr c39, c218, c384]
          exact fin 1 _ hd
        · skip
          refine x_iconst (pc := 387) (v := 0) dX10_doesOf_387 (by decide) ?_
          refine x_goto (pc := 388) (tgt := 393) dX10_doesOf_388 (by decide) ?_
          refine x_ireturn (pc := 393) dX10_doesOf_393 ⟨_, rfl, rfl⟩ ⟨Nat.le_refl _, Nat.le_refl _⟩ ?_
          exact absurd c384 c218
      · skip
        refine x_iconst (pc := 221) (v := 2) dX10_doesOf_221 (by decide) ?_
        refine x_goto (pc := 222) (tgt := 230) dX10_doesOf_222 (by decide) ?_
        refine x_istore (pc := 230) (lv' := [(0, .ref M), (1, .int (nI bi)), (2, .int (nI (far (ce bi) ta))), (3, .int 1), (4, .int 0), (5, .int (nI (yPk nb ce ta (ce bi) 4))), (6, .int (nI (cPk nb ce true ta ta (ce bi) 4))), (7, .int 2)]) dX10_doesOf_230 (by decide) rfl ?_
        refine x_goto (pc := 232) (tgt := 320) dX10_doesOf_232 (by decide) ?_
        refine x_aload_n (pc := 320) dX10_doesOf_320 rfl rfl ?_
        refine x_iload (pc := 321) dX10_doesOf_321 rfl ?_
        refine x_iconst (pc := 323) (v := 1) dX10_doesOf_323 (by decide) ?_
        refine x_icmp_ne_t (pc := 324) (tgt := 332) dX10_doesOf_324 (by decide) (by decide) ?_
        refine x_iload (pc := 332) dX10_doesOf_332 rfl ?_
        refine x_iconst (pc := 334) (v := 2) dX10_doesOf_334 (by decide) ?_
        refine x_icmp_ne_f (pc := 335) (tgt := 343) dX10_doesOf_335 (by decide) (by decide) ?_
        refine x_iload (pc := 338) dX10_doesOf_338 rfl ?_
        refine x_goto (pc := 340) (tgt := 371) dX10_doesOf_340 (by decide) ?_
        refine x_put (pc := 371) dX10_doesOf_371 kf_RX10_123 h.1.s rfl (Or.inl kb_10_37) ?_
        refine x_aload_n (pc := 374) dX10_doesOf_374 rfl rfl ?_
        refine x_get (pc := 375) dX10_doesOf_375 kf_RX10_123 h.1.s rfl ?_
        rw [up2_s]
        refine x_aload_n (pc := 378) dX10_doesOf_378 rfl rfl ?_
        refine x_getr (pc := 379) dX10_doesOf_379 kf_RX10_101 h.1.s rfl h.1.f15 ?_
        refine x_iload_n (pc := 382) dX10_doesOf_382 rfl rfl ?_
        refine x_ialdn (pc := 383) (a := bi) dX10_doesOf_383 h.1.s15 (by omega) (by omega) ?_
        rw [up2_a (show M + 16 ≠ M by omega), hc bi hb]
        refine x_icmpn_ne (pc := 384) (tgt := 391) (a := (cPk nb ce true ta ta (ce bi) 4)) (b := (ce bi)) dX10_doesOf_384 (by decide) (by omega) (by omega) (fun c384 => ?_) (fun c384 => ?_)
        · skip
          refine x_iload (pc := 391) dX10_doesOf_391 rfl ?_
          refine x_ireturn (pc := 393) dX10_doesOf_393 ⟨_, rfl, rfl⟩ ⟨Nat.le_refl _, Nat.le_refl _⟩ ?_
          have hd : deedN nb ki ve ce sto hu ta te lo (lnO o) bi = (2, (cPk nb ce true ta ta (ce bi) 4)) := by
            rw [hdN]
            simp [deedF, yDeed, dCome, show isOne 4 1 = true from by decide, c25, Nat.not_le.mpr c39, c218, c384]
          exact fin 2 _ hd
        · skip
          refine x_iconst (pc := 387) (v := 0) dX10_doesOf_387 (by decide) ?_
          refine x_goto (pc := 388) (tgt := 393) dX10_doesOf_388 (by decide) ?_
          refine x_ireturn (pc := 393) dX10_doesOf_393 ⟨_, rfl, rfl⟩ ⟨Nat.le_refl _, Nat.le_refl _⟩ ?_
          have hd : deedN nb ki ve ce sto hu ta te lo (lnO o) bi = (0, (cPk nb ce true ta ta (ce bi) 4)) := by
            rw [hdN]
            simp [deedF, yDeed, dCome, show isOne 4 1 = true from by decide, c25, Nat.not_le.mpr c39, c218, c384]
          exact fin 0 _ hd
    · skip
      refine x_iconst (pc := 42) (v := 1) dX10_doesOf_42 (by decide) ?_
      refine x_goto (pc := 43) (tgt := 47) dX10_doesOf_43 (by decide) ?_
      refine x_istore (pc := 47) (lv' := [(0, .ref M), (1, .int (nI bi)), (2, .int (nI (far (ce bi) ta))), (3, .int 1), (4, .int 1)]) dX10_doesOf_47 (by decide) rfl ?_
      refine x_aload_n (pc := 49) dX10_doesOf_49 rfl rfl ?_
      refine x_iload_n (pc := 50) dX10_doesOf_50 rfl rfl ?_
      refine x_aload_n (pc := 51) dX10_doesOf_51 rfl rfl ?_
      refine x_get (pc := 52) dX10_doesOf_52 kf_RX10_92 h.1.s rfl ?_
      rw [hta]
      refine x_iconst (pc := 55) (v := 0) dX10_doesOf_55 (by decide) ?_
      refine x_iconst (pc := 56) (v := 1) dX10_doesOf_56 (by decide) ?_
      refine x_callV (pc := 57) (As := [.int _, .int _, .int _, .int _]) dX10_doesOf_57 km_X10_nextBy kv_X10_nextBy kl_RX10_334 h.1.s rfl rfl (by decide) ⟨Nat.le_refl _, Nat.le_refl _⟩ rfl (Nat.le_of_ble_eq_true rfl) (Nat.le_of_ble_eq_true rfl) (m_nextBy_y h2 hb ht (⟨rfl, rfl, ?_⟩))
      rw [yPk2]
      refine x_istore (pc := 60) (lv' := [(0, .ref M), (1, .int (nI bi)), (2, .int (nI (far (ce bi) ta))), (3, .int 1), (4, .int 1), (5, .int (nI (yPk nb ce ta (ce bi) 4)))]) dX10_doesOf_60 (by decide) rfl ?_
      refine x_aload_n (pc := 62) dX10_doesOf_62 rfl rfl ?_
      refine x_iload_n (pc := 63) dX10_doesOf_63 rfl rfl ?_
      refine x_aload_n (pc := 64) dX10_doesOf_64 rfl rfl ?_
      refine x_get (pc := 65) dX10_doesOf_65 kf_RX10_92 h.1.s rfl ?_
      rw [hta]
      refine x_iconst (pc := 68) (v := 1) dX10_doesOf_68 (by decide) ?_
      refine x_iconst (pc := 69) (v := 0) dX10_doesOf_69 (by decide) ?_
      refine x_callV (pc := 70) (As := [.int _, .int _, .int _, .int _]) dX10_doesOf_70 km_X10_nextBy kv_X10_nextBy kl_RX10_334 h.1.s rfl rfl (by decide) ⟨Nat.le_refl _, Nat.le_refl _⟩ rfl (Nat.le_of_ble_eq_true rfl) (Nat.le_of_ble_eq_true rfl) (m_nextBy_c h2 hb ht (⟨rfl, rfl, ?_⟩))
      rw [show pick (cOk nb ce true ta) (cBet ta) (ce bi) 4 = cPk nb ce true ta ta (ce bi) 4 from rfl]
      refine x_istore (pc := 73) (lv' := [(0, .ref M), (1, .int (nI bi)), (2, .int (nI (far (ce bi) ta))), (3, .int 1), (4, .int 1), (5, .int (nI (yPk nb ce ta (ce bi) 4))), (6, .int (nI (cPk nb ce true ta ta (ce bi) 4)))]) dX10_doesOf_73 (by decide) rfl ?_
      refine x_aload_n (pc := 75) dX10_doesOf_75 rfl rfl ?_
      refine x_aload_n (pc := 76) dX10_doesOf_76 rfl rfl ?_
      refine x_getr (pc := 77) dX10_doesOf_77 kf_RX10_101 h.1.s rfl h.1.f15 ?_
      refine x_iload_n (pc := 80) dX10_doesOf_80 rfl rfl ?_
      refine x_ialdn (pc := 81) (a := bi) dX10_doesOf_81 h.1.s15 (by omega) (by omega) ?_
      rw [hc bi hb]
      refine x_put (pc := 82) dX10_doesOf_82 kf_RX10_123 h.1.s rfl (Or.inl kb_10_37) ?_
      have h3 := h2.keep (mdFr.fld (k := 37) (x := nI (ce bi)) (by omega))
      obtain ⟨hM, hn6, hnb, hki, hve, hc, hsto, hhu, hbd, hta, ht, hte, hte2, hlo, hlo2, hln⟩ := id h3
      have fin : ∀ d z, deedN nb ki ve ce sto hu ta te lo (lnO o) bi = (d, z) → P (n, sh, 0, 0) (up2 (up2 I2 M 37 (nI (ce bi))) M 37 (nI z)) R L (some (.int (nI d))) := fun d z e => by
        have h9 := K _ (g1.tr ((mdFr.fld (k := 37) (x := nI (ce bi)) (by omega)).tr (mdFr.fld (k := 37) (x := nI z) (by omega)))) (by rw [e]; exact up2_s)
        rw [e] at h9
        exact h9
      refine x_iload_n (pc := 85) dX10_doesOf_85 rfl rfl ?_
      refine x_if_eq_f (pc := 86) (tgt := 93) dX10_doesOf_86 (by decide) (by decide) ?_
      refine x_iconst (pc := 89) (v := 2) dX10_doesOf_89 (by decide) ?_
      refine x_goto (pc := 90) (tgt := 103) dX10_doesOf_90 (by decide) ?_
      refine x_istore (pc := 103) (lv' := [(0, .ref M), (1, .int (nI bi)), (2, .int (nI (far (ce bi) ta))), (3, .int 1), (4, .int 1), (5, .int (nI (yPk nb ce ta (ce bi) 4))), (6, .int (nI (cPk nb ce true ta ta (ce bi) 4))), (7, .int 2)]) dX10_doesOf_103 (by decide) rfl ?_
      refine x_aload_n (pc := 105) dX10_doesOf_105 rfl rfl ?_
      refine x_getr (pc := 106) dX10_doesOf_106 kf_RX10_104 h.1.s rfl h.1.f16 ?_
      refine x_iload_n (pc := 109) dX10_doesOf_109 rfl rfl ?_
      refine x_ialdn (pc := 110) (a := bi) dX10_doesOf_110 h.1.s16 (by omega) (by omega) ?_
      rw [hki bi hb, hk, show nI 4 = 4 from rfl]
      refine x_tsw (pc := 111) (dt := 320) [(1, 148), (2, 320), (3, 167), (4, 201), (5, 235), (6, 283)] dX10_doesOf_111 (by decide +kernel) (by decide) ?_
      refine xsw_c (fun h => absurd h (by decide)) (fun _ => ?_)
      refine xsw_c (fun h => absurd h (by decide)) (fun _ => ?_)
      refine xsw_c (fun h => absurd h (by decide)) (fun _ => ?_)
      refine xsw_c (fun _ => ?_) (fun h => absurd rfl h)
      refine x_iload_n (pc := 201) dX10_doesOf_201 rfl rfl ?_
      refine x_if_ne_t (pc := 202) (tgt := 210) dX10_doesOf_202 (by decide) (by decide) ?_
      refine x_iload (pc := 210) dX10_doesOf_210 rfl ?_
      refine x_aload_n (pc := 212) dX10_doesOf_212 rfl rfl ?_
      refine x_getr (pc := 213) dX10_doesOf_213 kf_RX10_101 h.1.s rfl h.1.f15 ?_
      refine x_iload_n (pc := 216) dX10_doesOf_216 rfl rfl ?_
      refine x_ialdn (pc := 217) (a := bi) dX10_doesOf_217 h.1.s15 (by omega) (by omega) ?_
      rw [hc bi hb]
      refine x_icmpn_ne (pc := 218) (tgt := 225) (a := (yPk nb ce ta (ce bi) 4)) (b := (ce bi)) dX10_doesOf_218 (by decide) (by omega) (by omega) (fun c218 => ?_) (fun c218 => ?_)
      · skip
        refine x_iconst (pc := 225) (v := 1) dX10_doesOf_225 (by decide) ?_
        refine x_goto (pc := 226) (tgt := 230) dX10_doesOf_226 (by decide) ?_
        refine x_istore (pc := 230) (lv' := [(0, .ref M), (1, .int (nI bi)), (2, .int (nI (far (ce bi) ta))), (3, .int 1), (4, .int 1), (5, .int (nI (yPk nb ce ta (ce bi) 4))), (6, .int (nI (cPk nb ce true ta ta (ce bi) 4))), (7, .int 1)]) dX10_doesOf_230 (by decide) rfl ?_
        refine x_goto (pc := 232) (tgt := 320) dX10_doesOf_232 (by decide) ?_
        refine x_aload_n (pc := 320) dX10_doesOf_320 rfl rfl ?_
        refine x_iload (pc := 321) dX10_doesOf_321 rfl ?_
        refine x_iconst (pc := 323) (v := 1) dX10_doesOf_323 (by decide) ?_
        refine x_icmp_ne_f (pc := 324) (tgt := 332) dX10_doesOf_324 (by decide) (by decide) ?_
        refine x_iload (pc := 327) dX10_doesOf_327 rfl ?_
        refine x_goto (pc := 329) (tgt := 371) dX10_doesOf_329 (by decide) ?_
        refine x_put (pc := 371) dX10_doesOf_371 kf_RX10_123 h.1.s rfl (Or.inl kb_10_37) ?_
        refine x_aload_n (pc := 374) dX10_doesOf_374 rfl rfl ?_
        refine x_get (pc := 375) dX10_doesOf_375 kf_RX10_123 h.1.s rfl ?_
        rw [up2_s]
        refine x_aload_n (pc := 378) dX10_doesOf_378 rfl rfl ?_
        refine x_getr (pc := 379) dX10_doesOf_379 kf_RX10_101 h.1.s rfl h.1.f15 ?_
        refine x_iload_n (pc := 382) dX10_doesOf_382 rfl rfl ?_
        refine x_ialdn (pc := 383) (a := bi) dX10_doesOf_383 h.1.s15 (by omega) (by omega) ?_
        rw [up2_a (show M + 16 ≠ M by omega), hc bi hb]
        refine x_icmpn_ne (pc := 384) (tgt := 391) (a := (yPk nb ce ta (ce bi) 4)) (b := (ce bi)) dX10_doesOf_384 (by decide) (by omega) (by omega) (fun c384 => ?_) (fun c384 => ?_)
        · skip
          refine x_iload (pc := 391) dX10_doesOf_391 rfl ?_
          refine x_ireturn (pc := 393) dX10_doesOf_393 ⟨_, rfl, rfl⟩ ⟨Nat.le_refl _, Nat.le_refl _⟩ ?_
          have hd : deedN nb ki ve ce sto hu ta te lo (lnO o) bi = (1, (yPk nb ce ta (ce bi) 4)) := by
            rw [hdN]
            simp [deedF, yDeed, dCome, show isOne 4 1 = true from by decide, c25, c39, c218, c384]
          exact fin 1 _ hd
        · skip
          refine x_iconst (pc := 387) (v := 0) dX10_doesOf_387 (by decide) ?_
          refine x_goto (pc := 388) (tgt := 393) dX10_doesOf_388 (by decide) ?_
          refine x_ireturn (pc := 393) dX10_doesOf_393 ⟨_, rfl, rfl⟩ ⟨Nat.le_refl _, Nat.le_refl _⟩ ?_
          exact absurd c384 c218
      · skip
        refine x_iconst (pc := 221) (v := 2) dX10_doesOf_221 (by decide) ?_
        refine x_goto (pc := 222) (tgt := 230) dX10_doesOf_222 (by decide) ?_
        refine x_istore (pc := 230) (lv' := [(0, .ref M), (1, .int (nI bi)), (2, .int (nI (far (ce bi) ta))), (3, .int 1), (4, .int 1), (5, .int (nI (yPk nb ce ta (ce bi) 4))), (6, .int (nI (cPk nb ce true ta ta (ce bi) 4))), (7, .int 2)]) dX10_doesOf_230 (by decide) rfl ?_
        refine x_goto (pc := 232) (tgt := 320) dX10_doesOf_232 (by decide) ?_
        refine x_aload_n (pc := 320) dX10_doesOf_320 rfl rfl ?_
        refine x_iload (pc := 321) dX10_doesOf_321 rfl ?_
        refine x_iconst (pc := 323) (v := 1) dX10_doesOf_323 (by decide) ?_
        refine x_icmp_ne_t (pc := 324) (tgt := 332) dX10_doesOf_324 (by decide) (by decide) ?_
        refine x_iload (pc := 332) dX10_doesOf_332 rfl ?_
        refine x_iconst (pc := 334) (v := 2) dX10_doesOf_334 (by decide) ?_
        refine x_icmp_ne_f (pc := 335) (tgt := 343) dX10_doesOf_335 (by decide) (by decide) ?_
        refine x_iload (pc := 338) dX10_doesOf_338 rfl ?_
        refine x_goto (pc := 340) (tgt := 371) dX10_doesOf_340 (by decide) ?_
        refine x_put (pc := 371) dX10_doesOf_371 kf_RX10_123 h.1.s rfl (Or.inl kb_10_37) ?_
        refine x_aload_n (pc := 374) dX10_doesOf_374 rfl rfl ?_
        refine x_get (pc := 375) dX10_doesOf_375 kf_RX10_123 h.1.s rfl ?_
        rw [up2_s]
        refine x_aload_n (pc := 378) dX10_doesOf_378 rfl rfl ?_
        refine x_getr (pc := 379) dX10_doesOf_379 kf_RX10_101 h.1.s rfl h.1.f15 ?_
        refine x_iload_n (pc := 382) dX10_doesOf_382 rfl rfl ?_
        refine x_ialdn (pc := 383) (a := bi) dX10_doesOf_383 h.1.s15 (by omega) (by omega) ?_
        rw [up2_a (show M + 16 ≠ M by omega), hc bi hb]
        refine x_icmpn_ne (pc := 384) (tgt := 391) (a := (cPk nb ce true ta ta (ce bi) 4)) (b := (ce bi)) dX10_doesOf_384 (by decide) (by omega) (by omega) (fun c384 => ?_) (fun c384 => ?_)
        · skip
          refine x_iload (pc := 391) dX10_doesOf_391 rfl ?_
          refine x_ireturn (pc := 393) dX10_doesOf_393 ⟨_, rfl, rfl⟩ ⟨Nat.le_refl _, Nat.le_refl _⟩ ?_
          have hd : deedN nb ki ve ce sto hu ta te lo (lnO o) bi = (2, (cPk nb ce true ta ta (ce bi) 4)) := by
            rw [hdN]
            simp [deedF, yDeed, dCome, show isOne 4 1 = true from by decide, c25, c39, c218, c384]
          exact fin 2 _ hd
        · skip
          refine x_iconst (pc := 387) (v := 0) dX10_doesOf_387 (by decide) ?_
          refine x_goto (pc := 388) (tgt := 393) dX10_doesOf_388 (by decide) ?_
          refine x_ireturn (pc := 393) dX10_doesOf_393 ⟨_, rfl, rfl⟩ ⟨Nat.le_refl _, Nat.le_refl _⟩ ?_
          have hd : deedN nb ki ve ce sto hu ta te lo (lnO o) bi = (0, (cPk nb ce true ta ta (ce bi) 4)) := by
            rw [hdN]
            simp [deedF, yDeed, dCome, show isOne 4 1 = true from by decide, c25, c39, c218, c384]
          exact fin 0 _ hd

set_option maxHeartbeats 4000000 in
set_option maxRecDepth 100000 in
theorem m_doesOf_5 {T : xT} {n : Nat} {sh : Nat → Nat × Nat} {I : xI} {R : xR} {L : xL} {P : xPost} {M nb ta te lo : Nat} {ki ve ce sto hu : Nat → Nat} {o : Option xAR} {bi : Nat} (h : MS sh R I M nb ki ve ce sto hu ta te lo o) (hb : bi < nb) (hk : ki bi = 5) (K : ∀ I2 : xI, mdFr M I I2 → I2 M 37 = nI (deedN nb ki ve ce sto hu ta te lo (lnO o) bi).2 → P (n, sh, 0, 0) I2 R L (some (.int (nI (deedN nb ki ve ce sto hu ta te lo (lnO o) bi).1)))) : XM T zX10_doesOf 4 [.ref M, .int (nI bi)] n sh I R L P := by
  have hM0 := h.1
  refine x_aload_n (pc := 0) dX10_doesOf_0 rfl rfl ?_
  refine x_iload_n (pc := 1) dX10_doesOf_1 rfl rfl ?_
  refine x_callV (pc := 2) (As := [.int _]) dX10_doesOf_2 km_X10_layLines kv_X10_layLines kl_RX10_331 h.1.s rfl rfl (by decide) ⟨Nat.le_refl _, Nat.le_refl _⟩ rfl (Nat.le_of_ble_eq_true rfl) (Nat.le_of_ble_eq_true rfl) (m_layLines h hb (fun I2 g1 y2 c2 => ⟨rfl, rfl, ?_⟩))
  have h2 := h.keep g1
  obtain ⟨hM, hn6, hnb, hki, hve, hc, hsto, hhu, hbd, hta, ht, hte, hte2, hlo, hlo2, hln⟩ := id h2
  have hce : ∀ i, i < nb → ce i < 36 := fun i hi => (hbd i hi).2.2.1
  obtain ⟨hk7, hv10, hc36, hs36, hu10⟩ := hbd bi hb
  have hfl := far_lt hc36 ht
  have hfs := far_lt hc36 hs36
  have hyl : ylOf (lnAt (lnO o) nb ce hu te bi) lo < 200 := by unfold ylOf; have := mn_le (a := (lnAt (lnO o) nb ce hu te bi).1) (b := 9); omega
  have hcl : clOf (lnAt (lnO o) nb ce hu te bi) (ki bi) (ve bi) lo < 200 := by unfold clOf; have h1 : cm (mn (lnAt (lnO o) nb ce hu te bi).1 9) (lnAt (lnO o) nb ce hu te bi).2 ≤ 9 := (by unfold cm; split; omega; have := mn_le (a := (lnAt (lnO o) nb ce hu te bi).1) (b := 9); have := mn_le (a := (lnAt (lnO o) nb ce hu te bi).2) (b := mn (lnAt (lnO o) nb ce hu te bi).1 9 - 1); omega); split <;> omega
  obtain ⟨YV, hYV⟩ : ∃ z, z = ylOf (lnAt (lnO o) nb ce hu te bi) lo := ⟨_, rfl⟩
  obtain ⟨CV, hCV⟩ : ∃ z, z = clOf (lnAt (lnO o) nb ce hu te bi) (ki bi) (ve bi) lo := ⟨_, rfl⟩
  rw [← hYV] at y2 hyl
  rw [← hCV] at c2 hcl
  have hdN : deedN nb ki ve ce sto hu ta te lo (lnO o) bi = deedF nb ce 5 (ve bi) (sto bi) ta te YV CV (ce bi) := by unfold deedN; rw [hYV, hCV, hk]
  have hy36 : yPk nb ce ta (ce bi) 4 < 36 := pick_lt hc36 4
  have hq36 : cPk nb ce true ta ta (ce bi) 4 < 36 := pick_lt hc36 4
  have hs4 : cPk nb ce false ta (sto bi) (ce bi) 4 < 36 := pick_lt hc36 4
  refine x_aload_n (pc := 5) dX10_doesOf_5 rfl rfl ?_
  refine x_aload_n (pc := 6) dX10_doesOf_6 rfl rfl ?_
  refine x_getr (pc := 7) dX10_doesOf_7 kf_RX10_101 h.1.s rfl h.1.f15 ?_
  refine x_iload_n (pc := 10) dX10_doesOf_10 rfl rfl ?_
  refine x_ialdn (pc := 11) (a := bi) dX10_doesOf_11 h.1.s15 (by omega) (by omega) ?_
  rw [hc bi hb]
  refine x_aload_n (pc := 12) dX10_doesOf_12 rfl rfl ?_
  refine x_get (pc := 13) dX10_doesOf_13 kf_RX10_92 h.1.s rfl ?_
  rw [hta]
  refine x_callV (pc := 16) (As := [.int _, .int _]) dX10_doesOf_16 km_X10_far kv_X10_far kl_RX10_301 h.1.s rfl rfl (by decide) ⟨Nat.le_refl _, Nat.le_refl _⟩ rfl (Nat.le_of_ble_eq_true rfl) (Nat.le_of_ble_eq_true rfl) (m_far h.1.s hc36 ht (⟨rfl, rfl, ?_⟩))
  refine x_istore_n (pc := 19) (lv' := [(0, .ref M), (1, .int (nI bi)), (2, .int (nI (far (ce bi) ta)))]) dX10_doesOf_19 rfl (by decide) rfl ?_
  refine x_iload_n (pc := 20) dX10_doesOf_20 rfl rfl ?_
  refine x_aload_n (pc := 21) dX10_doesOf_21 rfl rfl ?_
  refine x_get (pc := 22) dX10_doesOf_22 kf_RX10_120 h.1.s rfl ?_
  rw [c2]
  refine x_icmpn_gt (pc := 25) (tgt := 32) (a := (far (ce bi) ta)) (b := CV) dX10_doesOf_25 (by decide) (by omega) (by omega) (fun c25 => ?_) (fun c25 => ?_)
  · skip
    refine x_iconst (pc := 32) (v := 0) dX10_doesOf_32 (by decide) ?_
    refine x_istore_n (pc := 33) (lv' := [(0, .ref M), (1, .int (nI bi)), (2, .int (nI (far (ce bi) ta))), (3, .int 0)]) dX10_doesOf_33 rfl (by decide) rfl ?_
    refine x_iload_n (pc := 34) dX10_doesOf_34 rfl rfl ?_
    refine x_aload_n (pc := 35) dX10_doesOf_35 rfl rfl ?_
    refine x_get (pc := 36) dX10_doesOf_36 kf_RX10_117 h.1.s rfl ?_
    rw [y2]
    refine x_icmpn_gt (pc := 39) (tgt := 46) (a := (far (ce bi) ta)) (b := YV) dX10_doesOf_39 (by decide) (by omega) (by omega) (fun c39 => ?_) (fun c39 => ?_)
    · skip
      refine x_iconst (pc := 46) (v := 0) dX10_doesOf_46 (by decide) ?_
      refine x_istore (pc := 47) (lv' := [(0, .ref M), (1, .int (nI bi)), (2, .int (nI (far (ce bi) ta))), (3, .int 0), (4, .int 0)]) dX10_doesOf_47 (by decide) rfl ?_
      refine x_aload_n (pc := 49) dX10_doesOf_49 rfl rfl ?_
      refine x_iload_n (pc := 50) dX10_doesOf_50 rfl rfl ?_
      refine x_aload_n (pc := 51) dX10_doesOf_51 rfl rfl ?_
      refine x_get (pc := 52) dX10_doesOf_52 kf_RX10_92 h.1.s rfl ?_
      rw [hta]
      refine x_iconst (pc := 55) (v := 0) dX10_doesOf_55 (by decide) ?_
      refine x_iconst (pc := 56) (v := 1) dX10_doesOf_56 (by decide) ?_
      refine x_callV (pc := 57) (As := [.int _, .int _, .int _, .int _]) dX10_doesOf_57 km_X10_nextBy kv_X10_nextBy kl_RX10_334 h.1.s rfl rfl (by decide) ⟨Nat.le_refl _, Nat.le_refl _⟩ rfl (Nat.le_of_ble_eq_true rfl) (Nat.le_of_ble_eq_true rfl) (m_nextBy_y h2 hb ht (⟨rfl, rfl, ?_⟩))
      rw [yPk2]
      refine x_istore (pc := 60) (lv' := [(0, .ref M), (1, .int (nI bi)), (2, .int (nI (far (ce bi) ta))), (3, .int 0), (4, .int 0), (5, .int (nI (yPk nb ce ta (ce bi) 4)))]) dX10_doesOf_60 (by decide) rfl ?_
      refine x_aload_n (pc := 62) dX10_doesOf_62 rfl rfl ?_
      refine x_iload_n (pc := 63) dX10_doesOf_63 rfl rfl ?_
      refine x_aload_n (pc := 64) dX10_doesOf_64 rfl rfl ?_
      refine x_get (pc := 65) dX10_doesOf_65 kf_RX10_92 h.1.s rfl ?_
      rw [hta]
      refine x_iconst (pc := 68) (v := 1) dX10_doesOf_68 (by decide) ?_
      refine x_iconst (pc := 69) (v := 0) dX10_doesOf_69 (by decide) ?_
      refine x_callV (pc := 70) (As := [.int _, .int _, .int _, .int _]) dX10_doesOf_70 km_X10_nextBy kv_X10_nextBy kl_RX10_334 h.1.s rfl rfl (by decide) ⟨Nat.le_refl _, Nat.le_refl _⟩ rfl (Nat.le_of_ble_eq_true rfl) (Nat.le_of_ble_eq_true rfl) (m_nextBy_c h2 hb ht (⟨rfl, rfl, ?_⟩))
      rw [show pick (cOk nb ce true ta) (cBet ta) (ce bi) 4 = cPk nb ce true ta ta (ce bi) 4 from rfl]
      refine x_istore (pc := 73) (lv' := [(0, .ref M), (1, .int (nI bi)), (2, .int (nI (far (ce bi) ta))), (3, .int 0), (4, .int 0), (5, .int (nI (yPk nb ce ta (ce bi) 4))), (6, .int (nI (cPk nb ce true ta ta (ce bi) 4)))]) dX10_doesOf_73 (by decide) rfl ?_
      refine x_aload_n (pc := 75) dX10_doesOf_75 rfl rfl ?_
      refine x_aload_n (pc := 76) dX10_doesOf_76 rfl rfl ?_
      refine x_getr (pc := 77) dX10_doesOf_77 kf_RX10_101 h.1.s rfl h.1.f15 ?_
      refine x_iload_n (pc := 80) dX10_doesOf_80 rfl rfl ?_
      refine x_ialdn (pc := 81) (a := bi) dX10_doesOf_81 h.1.s15 (by omega) (by omega) ?_
      rw [hc bi hb]
      refine x_put (pc := 82) dX10_doesOf_82 kf_RX10_123 h.1.s rfl (Or.inl kb_10_37) ?_
      have h3 := h2.keep (mdFr.fld (k := 37) (x := nI (ce bi)) (by omega))
      obtain ⟨hM, hn6, hnb, hki, hve, hc, hsto, hhu, hbd, hta, ht, hte, hte2, hlo, hlo2, hln⟩ := id h3
      have fin : ∀ d z, deedN nb ki ve ce sto hu ta te lo (lnO o) bi = (d, z) → P (n, sh, 0, 0) (up2 (up2 I2 M 37 (nI (ce bi))) M 37 (nI z)) R L (some (.int (nI d))) := fun d z e => by
        have h9 := K _ (g1.tr ((mdFr.fld (k := 37) (x := nI (ce bi)) (by omega)).tr (mdFr.fld (k := 37) (x := nI z) (by omega)))) (by rw [e]; exact up2_s)
        rw [e] at h9
        exact h9
      refine x_iload_n (pc := 85) dX10_doesOf_85 rfl rfl ?_
      refine x_if_eq_t (pc := 86) (tgt := 93) dX10_doesOf_86 (by decide) (by decide) ?_
      refine x_iload (pc := 93) dX10_doesOf_93 rfl ?_
      refine x_if_eq_t (pc := 95) (tgt := 102) dX10_doesOf_95 (by decide) (by decide) ?_
      refine x_iconst (pc := 102) (v := 0) dX10_doesOf_102 (by decide) ?_
      refine x_istore (pc := 103) (lv' := [(0, .ref M), (1, .int (nI bi)), (2, .int (nI (far (ce bi) ta))), (3, .int 0), (4, .int 0), (5, .int (nI (yPk nb ce ta (ce bi) 4))), (6, .int (nI (cPk nb ce true ta ta (ce bi) 4))), (7, .int 0)]) dX10_doesOf_103 (by decide) rfl ?_
      refine x_aload_n (pc := 105) dX10_doesOf_105 rfl rfl ?_
      refine x_getr (pc := 106) dX10_doesOf_106 kf_RX10_104 h.1.s rfl h.1.f16 ?_
      refine x_iload_n (pc := 109) dX10_doesOf_109 rfl rfl ?_
      refine x_ialdn (pc := 110) (a := bi) dX10_doesOf_110 h.1.s16 (by omega) (by omega) ?_
      rw [hki bi hb, hk, show nI 5 = 5 from rfl]
      refine x_tsw (pc := 111) (dt := 320) [(1, 148), (2, 320), (3, 167), (4, 201), (5, 235), (6, 283)] dX10_doesOf_111 (by decide +kernel) (by decide) ?_
      refine xsw_c (fun h => absurd h (by decide)) (fun _ => ?_)
      refine xsw_c (fun h => absurd h (by decide)) (fun _ => ?_)
      refine xsw_c (fun h => absurd h (by decide)) (fun _ => ?_)
      refine xsw_c (fun h => absurd h (by decide)) (fun _ => ?_)
      refine xsw_c (fun _ => ?_) (fun h => absurd rfl h)
      refine x_iload_n (pc := 235) dX10_doesOf_235 rfl rfl ?_
      refine x_if_ne_f (pc := 236) (tgt := 244) dX10_doesOf_236 (by decide) (by decide) ?_
      refine x_iload (pc := 239) dX10_doesOf_239 rfl ?_
      refine x_if_eq_t (pc := 241) (tgt := 248) dX10_doesOf_241 (by decide) (by decide) ?_
      refine x_aload_n (pc := 248) dX10_doesOf_248 rfl rfl ?_
      refine x_aload_n (pc := 249) dX10_doesOf_249 rfl rfl ?_
      refine x_getr (pc := 250) dX10_doesOf_250 kf_RX10_101 h.1.s rfl h.1.f15 ?_
      refine x_iload_n (pc := 253) dX10_doesOf_253 rfl rfl ?_
      refine x_ialdn (pc := 254) (a := bi) dX10_doesOf_254 h.1.s15 (by omega) (by omega) ?_
      rw [hc bi hb]
      refine x_aload_n (pc := 255) dX10_doesOf_255 rfl rfl ?_
      refine x_getr (pc := 256) dX10_doesOf_256 kf_RX10_32 h.1.s rfl h.1.f3 ?_
      refine x_iload_n (pc := 259) dX10_doesOf_259 rfl rfl ?_
      refine x_ialdn (pc := 260) (a := bi) dX10_doesOf_260 h.1.s3 (by omega) (by omega) ?_
      rw [hsto bi hb]
      refine x_callV (pc := 261) (As := [.int _, .int _]) dX10_doesOf_261 km_X10_far kv_X10_far kl_RX10_301 h.1.s rfl rfl (by decide) ⟨Nat.le_refl _, Nat.le_refl _⟩ rfl (Nat.le_of_ble_eq_true rfl) (Nat.le_of_ble_eq_true rfl) (m_far h.1.s hc36 hs36 (⟨rfl, rfl, ?_⟩))
      refine x_aload_n (pc := 264) dX10_doesOf_264 rfl rfl ?_
      refine x_getr (pc := 265) dX10_doesOf_265 kf_RX10_26 h.1.s rfl h.1.f1 ?_
      refine x_iload_n (pc := 268) dX10_doesOf_268 rfl rfl ?_
      refine x_ialdn (pc := 269) (a := bi) dX10_doesOf_269 h.1.s1 (by omega) (by omega) ?_
      rw [hve bi hb]
      refine x_icmpn_gt (pc := 270) (tgt := 277) (a := (far (ce bi) (sto bi))) (b := (ve bi)) dX10_doesOf_270 (by decide) (by omega) (by omega) (fun c270 => ?_) (fun c270 => ?_)
      · skip
        refine x_iconst (pc := 277) (v := 0) dX10_doesOf_277 (by decide) ?_
        refine x_istore (pc := 278) (lv' := [(0, .ref M), (1, .int (nI bi)), (2, .int (nI (far (ce bi) ta))), (3, .int 0), (4, .int 0), (5, .int (nI (yPk nb ce ta (ce bi) 4))), (6, .int (nI (cPk nb ce true ta ta (ce bi) 4))), (7, .int 0)]) dX10_doesOf_278 (by decide) rfl ?_
        refine x_goto (pc := 280) (tgt := 320) dX10_doesOf_280 (by decide) ?_
        refine x_aload_n (pc := 320) dX10_doesOf_320 rfl rfl ?_
        refine x_iload (pc := 321) dX10_doesOf_321 rfl ?_
        refine x_iconst (pc := 323) (v := 1) dX10_doesOf_323 (by decide) ?_
        refine x_icmp_ne_t (pc := 324) (tgt := 332) dX10_doesOf_324 (by decide) (by decide) ?_
        refine x_iload (pc := 332) dX10_doesOf_332 rfl ?_
        refine x_iconst (pc := 334) (v := 2) dX10_doesOf_334 (by decide) ?_
        refine x_icmp_ne_t (pc := 335) (tgt := 343) dX10_doesOf_335 (by decide) (by decide) ?_
        refine x_iload (pc := 343) dX10_doesOf_343 rfl ?_
        refine x_iconst (pc := 345) (v := 3) dX10_doesOf_345 (by decide) ?_
        refine x_icmp_ne_t (pc := 346) (tgt := 365) dX10_doesOf_346 (by decide) (by decide) ?_
        refine x_aload_n (pc := 365) dX10_doesOf_365 rfl rfl ?_
        refine x_getr (pc := 366) dX10_doesOf_366 kf_RX10_101 h.1.s rfl h.1.f15 ?_
        refine x_iload_n (pc := 369) dX10_doesOf_369 rfl rfl ?_
        refine x_ialdn (pc := 370) (a := bi) dX10_doesOf_370 h.1.s15 (by omega) (by omega) ?_
        rw [hc bi hb]
        refine x_put (pc := 371) dX10_doesOf_371 kf_RX10_123 h.1.s rfl (Or.inl kb_10_37) ?_
        refine x_aload_n (pc := 374) dX10_doesOf_374 rfl rfl ?_
        refine x_get (pc := 375) dX10_doesOf_375 kf_RX10_123 h.1.s rfl ?_
        rw [up2_s]
        refine x_aload_n (pc := 378) dX10_doesOf_378 rfl rfl ?_
        refine x_getr (pc := 379) dX10_doesOf_379 kf_RX10_101 h.1.s rfl h.1.f15 ?_
        refine x_iload_n (pc := 382) dX10_doesOf_382 rfl rfl ?_
        refine x_ialdn (pc := 383) (a := bi) dX10_doesOf_383 h.1.s15 (by omega) (by omega) ?_
        rw [up2_a (show M + 16 ≠ M by omega), hc bi hb]
        refine x_icmp_ne_f (pc := 384) (tgt := 391) dX10_doesOf_384 (by decide) (rfl) ?_
        refine x_iconst (pc := 387) (v := 0) dX10_doesOf_387 (by decide) ?_
        refine x_goto (pc := 388) (tgt := 393) dX10_doesOf_388 (by decide) ?_
        refine x_ireturn (pc := 393) dX10_doesOf_393 ⟨_, rfl, rfl⟩ ⟨Nat.le_refl _, Nat.le_refl _⟩ ?_
        have hd : deedN nb ki ve ce sto hu ta te lo (lnO o) bi = (0, (ce bi)) := by
          rw [hdN]
          simp [deedF, yDeed, dCome, show isOne 5 1 = true from by decide, Nat.not_le.mpr c25, Nat.not_le.mpr c39, Nat.not_le.mpr c270]
        exact fin 0 _ hd
      · skip
        refine x_iconst (pc := 273) (v := 3) dX10_doesOf_273 (by decide) ?_
        refine x_goto (pc := 274) (tgt := 278) dX10_doesOf_274 (by decide) ?_
        refine x_istore (pc := 278) (lv' := [(0, .ref M), (1, .int (nI bi)), (2, .int (nI (far (ce bi) ta))), (3, .int 0), (4, .int 0), (5, .int (nI (yPk nb ce ta (ce bi) 4))), (6, .int (nI (cPk nb ce true ta ta (ce bi) 4))), (7, .int 3)]) dX10_doesOf_278 (by decide) rfl ?_
        refine x_goto (pc := 280) (tgt := 320) dX10_doesOf_280 (by decide) ?_
        refine x_aload_n (pc := 320) dX10_doesOf_320 rfl rfl ?_
        refine x_iload (pc := 321) dX10_doesOf_321 rfl ?_
        refine x_iconst (pc := 323) (v := 1) dX10_doesOf_323 (by decide) ?_
        refine x_icmp_ne_t (pc := 324) (tgt := 332) dX10_doesOf_324 (by decide) (by decide) ?_
        refine x_iload (pc := 332) dX10_doesOf_332 rfl ?_
        refine x_iconst (pc := 334) (v := 2) dX10_doesOf_334 (by decide) ?_
        refine x_icmp_ne_t (pc := 335) (tgt := 343) dX10_doesOf_335 (by decide) (by decide) ?_
        refine x_iload (pc := 343) dX10_doesOf_343 rfl ?_
        refine x_iconst (pc := 345) (v := 3) dX10_doesOf_345 (by decide) ?_
        refine x_icmp_ne_f (pc := 346) (tgt := 365) dX10_doesOf_346 (by decide) (by decide) ?_
        refine x_aload_n (pc := 349) dX10_doesOf_349 rfl rfl ?_
        refine x_iload_n (pc := 350) dX10_doesOf_350 rfl rfl ?_
        refine x_aload_n (pc := 351) dX10_doesOf_351 rfl rfl ?_
        refine x_getr (pc := 352) dX10_doesOf_352 kf_RX10_32 h.1.s rfl h.1.f3 ?_
        refine x_iload_n (pc := 355) dX10_doesOf_355 rfl rfl ?_
        refine x_ialdn (pc := 356) (a := bi) dX10_doesOf_356 h.1.s3 (by omega) (by omega) ?_
        rw [hsto bi hb]
        refine x_iconst (pc := 357) (v := 1) dX10_doesOf_357 (by decide) ?_
        refine x_iconst (pc := 358) (v := 1) dX10_doesOf_358 (by decide) ?_
        refine x_callV (pc := 359) (As := [.int _, .int _, .int _, .int _]) dX10_doesOf_359 km_X10_nextBy kv_X10_nextBy kl_RX10_334 h.1.s rfl rfl (by decide) ⟨Nat.le_refl _, Nat.le_refl _⟩ rfl (Nat.le_of_ble_eq_true rfl) (Nat.le_of_ble_eq_true rfl) (m_nextBy_s h3 hb hs36 (⟨rfl, rfl, ?_⟩))
        rw [show pick (cOk nb ce false ta) (cBet (sto bi)) (ce bi) 4 = cPk nb ce false ta (sto bi) (ce bi) 4 from rfl]
        refine x_goto (pc := 362) (tgt := 371) dX10_doesOf_362 (by decide) ?_
        refine x_put (pc := 371) dX10_doesOf_371 kf_RX10_123 h.1.s rfl (Or.inl kb_10_37) ?_
        refine x_aload_n (pc := 374) dX10_doesOf_374 rfl rfl ?_
        refine x_get (pc := 375) dX10_doesOf_375 kf_RX10_123 h.1.s rfl ?_
        rw [up2_s]
        refine x_aload_n (pc := 378) dX10_doesOf_378 rfl rfl ?_
        refine x_getr (pc := 379) dX10_doesOf_379 kf_RX10_101 h.1.s rfl h.1.f15 ?_
        refine x_iload_n (pc := 382) dX10_doesOf_382 rfl rfl ?_
        refine x_ialdn (pc := 383) (a := bi) dX10_doesOf_383 h.1.s15 (by omega) (by omega) ?_
        rw [up2_a (show M + 16 ≠ M by omega), hc bi hb]
        refine x_icmpn_ne (pc := 384) (tgt := 391) (a := (cPk nb ce false ta (sto bi) (ce bi) 4)) (b := (ce bi)) dX10_doesOf_384 (by decide) (by omega) (by omega) (fun c384 => ?_) (fun c384 => ?_)
        · skip
          refine x_iload (pc := 391) dX10_doesOf_391 rfl ?_
          refine x_ireturn (pc := 393) dX10_doesOf_393 ⟨_, rfl, rfl⟩ ⟨Nat.le_refl _, Nat.le_refl _⟩ ?_
          have hd : deedN nb ki ve ce sto hu ta te lo (lnO o) bi = (3, (cPk nb ce false ta (sto bi) (ce bi) 4)) := by
            rw [hdN]
            simp [deedF, yDeed, dCome, show isOne 5 1 = true from by decide, Nat.not_le.mpr c25, Nat.not_le.mpr c39, c384, c270]
          exact fin 3 _ hd
        · skip
          refine x_iconst (pc := 387) (v := 0) dX10_doesOf_387 (by decide) ?_
          refine x_goto (pc := 388) (tgt := 393) dX10_doesOf_388 (by decide) ?_
          refine x_ireturn (pc := 393) dX10_doesOf_393 ⟨_, rfl, rfl⟩ ⟨Nat.le_refl _, Nat.le_refl _⟩ ?_
          have hd : deedN nb ki ve ce sto hu ta te lo (lnO o) bi = (0, (cPk nb ce false ta (sto bi) (ce bi) 4)) := by
            rw [hdN]
            simp [deedF, yDeed, dCome, show isOne 5 1 = true from by decide, Nat.not_le.mpr c25, Nat.not_le.mpr c39, c384, c270]
          exact fin 0 _ hd
    · skip
      refine x_iconst (pc := 42) (v := 1) dX10_doesOf_42 (by decide) ?_
      refine x_goto (pc := 43) (tgt := 47) dX10_doesOf_43 (by decide) ?_
      refine x_istore (pc := 47) (lv' := [(0, .ref M), (1, .int (nI bi)), (2, .int (nI (far (ce bi) ta))), (3, .int 0), (4, .int 1)]) dX10_doesOf_47 (by decide) rfl ?_
      refine x_aload_n (pc := 49) dX10_doesOf_49 rfl rfl ?_
      refine x_iload_n (pc := 50) dX10_doesOf_50 rfl rfl ?_
      refine x_aload_n (pc := 51) dX10_doesOf_51 rfl rfl ?_
      refine x_get (pc := 52) dX10_doesOf_52 kf_RX10_92 h.1.s rfl ?_
      rw [hta]
      refine x_iconst (pc := 55) (v := 0) dX10_doesOf_55 (by decide) ?_
      refine x_iconst (pc := 56) (v := 1) dX10_doesOf_56 (by decide) ?_
      refine x_callV (pc := 57) (As := [.int _, .int _, .int _, .int _]) dX10_doesOf_57 km_X10_nextBy kv_X10_nextBy kl_RX10_334 h.1.s rfl rfl (by decide) ⟨Nat.le_refl _, Nat.le_refl _⟩ rfl (Nat.le_of_ble_eq_true rfl) (Nat.le_of_ble_eq_true rfl) (m_nextBy_y h2 hb ht (⟨rfl, rfl, ?_⟩))
      rw [yPk2]
      refine x_istore (pc := 60) (lv' := [(0, .ref M), (1, .int (nI bi)), (2, .int (nI (far (ce bi) ta))), (3, .int 0), (4, .int 1), (5, .int (nI (yPk nb ce ta (ce bi) 4)))]) dX10_doesOf_60 (by decide) rfl ?_
      refine x_aload_n (pc := 62) dX10_doesOf_62 rfl rfl ?_
      refine x_iload_n (pc := 63) dX10_doesOf_63 rfl rfl ?_
      refine x_aload_n (pc := 64) dX10_doesOf_64 rfl rfl ?_
      refine x_get (pc := 65) dX10_doesOf_65 kf_RX10_92 h.1.s rfl ?_
      rw [hta]
      refine x_iconst (pc := 68) (v := 1) dX10_doesOf_68 (by decide) ?_
      refine x_iconst (pc := 69) (v := 0) dX10_doesOf_69 (by decide) ?_
      refine x_callV (pc := 70) (As := [.int _, .int _, .int _, .int _]) dX10_doesOf_70 km_X10_nextBy kv_X10_nextBy kl_RX10_334 h.1.s rfl rfl (by decide) ⟨Nat.le_refl _, Nat.le_refl _⟩ rfl (Nat.le_of_ble_eq_true rfl) (Nat.le_of_ble_eq_true rfl) (m_nextBy_c h2 hb ht (⟨rfl, rfl, ?_⟩))
      rw [show pick (cOk nb ce true ta) (cBet ta) (ce bi) 4 = cPk nb ce true ta ta (ce bi) 4 from rfl]
      refine x_istore (pc := 73) (lv' := [(0, .ref M), (1, .int (nI bi)), (2, .int (nI (far (ce bi) ta))), (3, .int 0), (4, .int 1), (5, .int (nI (yPk nb ce ta (ce bi) 4))), (6, .int (nI (cPk nb ce true ta ta (ce bi) 4)))]) dX10_doesOf_73 (by decide) rfl ?_
      refine x_aload_n (pc := 75) dX10_doesOf_75 rfl rfl ?_
      refine x_aload_n (pc := 76) dX10_doesOf_76 rfl rfl ?_
      refine x_getr (pc := 77) dX10_doesOf_77 kf_RX10_101 h.1.s rfl h.1.f15 ?_
      refine x_iload_n (pc := 80) dX10_doesOf_80 rfl rfl ?_
      refine x_ialdn (pc := 81) (a := bi) dX10_doesOf_81 h.1.s15 (by omega) (by omega) ?_
      rw [hc bi hb]
      refine x_put (pc := 82) dX10_doesOf_82 kf_RX10_123 h.1.s rfl (Or.inl kb_10_37) ?_
      have h3 := h2.keep (mdFr.fld (k := 37) (x := nI (ce bi)) (by omega))
      obtain ⟨hM, hn6, hnb, hki, hve, hc, hsto, hhu, hbd, hta, ht, hte, hte2, hlo, hlo2, hln⟩ := id h3
      have fin : ∀ d z, deedN nb ki ve ce sto hu ta te lo (lnO o) bi = (d, z) → P (n, sh, 0, 0) (up2 (up2 I2 M 37 (nI (ce bi))) M 37 (nI z)) R L (some (.int (nI d))) := fun d z e => by
        have h9 := K _ (g1.tr ((mdFr.fld (k := 37) (x := nI (ce bi)) (by omega)).tr (mdFr.fld (k := 37) (x := nI z) (by omega)))) (by rw [e]; exact up2_s)
        rw [e] at h9
        exact h9
      refine x_iload_n (pc := 85) dX10_doesOf_85 rfl rfl ?_
      refine x_if_eq_t (pc := 86) (tgt := 93) dX10_doesOf_86 (by decide) (by decide) ?_
      refine x_iload (pc := 93) dX10_doesOf_93 rfl ?_
      refine x_if_eq_f (pc := 95) (tgt := 102) dX10_doesOf_95 (by decide) (by decide) ?_
      refine x_iconst (pc := 98) (v := 1) dX10_doesOf_98 (by decide) ?_
      refine x_goto (pc := 99) (tgt := 103) dX10_doesOf_99 (by decide) ?_
      refine x_istore (pc := 103) (lv' := [(0, .ref M), (1, .int (nI bi)), (2, .int (nI (far (ce bi) ta))), (3, .int 0), (4, .int 1), (5, .int (nI (yPk nb ce ta (ce bi) 4))), (6, .int (nI (cPk nb ce true ta ta (ce bi) 4))), (7, .int 1)]) dX10_doesOf_103 (by decide) rfl ?_
      refine x_aload_n (pc := 105) dX10_doesOf_105 rfl rfl ?_
      refine x_getr (pc := 106) dX10_doesOf_106 kf_RX10_104 h.1.s rfl h.1.f16 ?_
      refine x_iload_n (pc := 109) dX10_doesOf_109 rfl rfl ?_
      refine x_ialdn (pc := 110) (a := bi) dX10_doesOf_110 h.1.s16 (by omega) (by omega) ?_
      rw [hki bi hb, hk, show nI 5 = 5 from rfl]
      refine x_tsw (pc := 111) (dt := 320) [(1, 148), (2, 320), (3, 167), (4, 201), (5, 235), (6, 283)] dX10_doesOf_111 (by decide +kernel) (by decide) ?_
      refine xsw_c (fun h => absurd h (by decide)) (fun _ => ?_)
      refine xsw_c (fun h => absurd h (by decide)) (fun _ => ?_)
      refine xsw_c (fun h => absurd h (by decide)) (fun _ => ?_)
      refine xsw_c (fun h => absurd h (by decide)) (fun _ => ?_)
      refine xsw_c (fun _ => ?_) (fun h => absurd rfl h)
      refine x_iload_n (pc := 235) dX10_doesOf_235 rfl rfl ?_
      refine x_if_ne_f (pc := 236) (tgt := 244) dX10_doesOf_236 (by decide) (by decide) ?_
      refine x_iload (pc := 239) dX10_doesOf_239 rfl ?_
      refine x_if_eq_f (pc := 241) (tgt := 248) dX10_doesOf_241 (by decide) (by decide) ?_
      refine x_iconst (pc := 244) (v := 1) dX10_doesOf_244 (by decide) ?_
      refine x_goto (pc := 245) (tgt := 278) dX10_doesOf_245 (by decide) ?_
      refine x_istore (pc := 278) (lv' := [(0, .ref M), (1, .int (nI bi)), (2, .int (nI (far (ce bi) ta))), (3, .int 0), (4, .int 1), (5, .int (nI (yPk nb ce ta (ce bi) 4))), (6, .int (nI (cPk nb ce true ta ta (ce bi) 4))), (7, .int 1)]) dX10_doesOf_278 (by decide) rfl ?_
      refine x_goto (pc := 280) (tgt := 320) dX10_doesOf_280 (by decide) ?_
      refine x_aload_n (pc := 320) dX10_doesOf_320 rfl rfl ?_
      refine x_iload (pc := 321) dX10_doesOf_321 rfl ?_
      refine x_iconst (pc := 323) (v := 1) dX10_doesOf_323 (by decide) ?_
      refine x_icmp_ne_f (pc := 324) (tgt := 332) dX10_doesOf_324 (by decide) (by decide) ?_
      refine x_iload (pc := 327) dX10_doesOf_327 rfl ?_
      refine x_goto (pc := 329) (tgt := 371) dX10_doesOf_329 (by decide) ?_
      refine x_put (pc := 371) dX10_doesOf_371 kf_RX10_123 h.1.s rfl (Or.inl kb_10_37) ?_
      refine x_aload_n (pc := 374) dX10_doesOf_374 rfl rfl ?_
      refine x_get (pc := 375) dX10_doesOf_375 kf_RX10_123 h.1.s rfl ?_
      rw [up2_s]
      refine x_aload_n (pc := 378) dX10_doesOf_378 rfl rfl ?_
      refine x_getr (pc := 379) dX10_doesOf_379 kf_RX10_101 h.1.s rfl h.1.f15 ?_
      refine x_iload_n (pc := 382) dX10_doesOf_382 rfl rfl ?_
      refine x_ialdn (pc := 383) (a := bi) dX10_doesOf_383 h.1.s15 (by omega) (by omega) ?_
      rw [up2_a (show M + 16 ≠ M by omega), hc bi hb]
      refine x_icmpn_ne (pc := 384) (tgt := 391) (a := (yPk nb ce ta (ce bi) 4)) (b := (ce bi)) dX10_doesOf_384 (by decide) (by omega) (by omega) (fun c384 => ?_) (fun c384 => ?_)
      · skip
        refine x_iload (pc := 391) dX10_doesOf_391 rfl ?_
        refine x_ireturn (pc := 393) dX10_doesOf_393 ⟨_, rfl, rfl⟩ ⟨Nat.le_refl _, Nat.le_refl _⟩ ?_
        have hd : deedN nb ki ve ce sto hu ta te lo (lnO o) bi = (1, (yPk nb ce ta (ce bi) 4)) := by
          rw [hdN]
          simp [deedF, yDeed, dCome, show isOne 5 1 = true from by decide, Nat.not_le.mpr c25, c39, c384]
        exact fin 1 _ hd
      · skip
        refine x_iconst (pc := 387) (v := 0) dX10_doesOf_387 (by decide) ?_
        refine x_goto (pc := 388) (tgt := 393) dX10_doesOf_388 (by decide) ?_
        refine x_ireturn (pc := 393) dX10_doesOf_393 ⟨_, rfl, rfl⟩ ⟨Nat.le_refl _, Nat.le_refl _⟩ ?_
        have hd : deedN nb ki ve ce sto hu ta te lo (lnO o) bi = (0, (yPk nb ce ta (ce bi) 4)) := by
          rw [hdN]
          simp [deedF, yDeed, dCome, show isOne 5 1 = true from by decide, Nat.not_le.mpr c25, c39, c384]
        exact fin 0 _ hd
  · skip
    refine x_iconst (pc := 28) (v := 1) dX10_doesOf_28 (by decide) ?_
    refine x_goto (pc := 29) (tgt := 33) dX10_doesOf_29 (by decide) ?_
    refine x_istore_n (pc := 33) (lv' := [(0, .ref M), (1, .int (nI bi)), (2, .int (nI (far (ce bi) ta))), (3, .int 1)]) dX10_doesOf_33 rfl (by decide) rfl ?_
    refine x_iload_n (pc := 34) dX10_doesOf_34 rfl rfl ?_
    refine x_aload_n (pc := 35) dX10_doesOf_35 rfl rfl ?_
    refine x_get (pc := 36) dX10_doesOf_36 kf_RX10_117 h.1.s rfl ?_
    rw [y2]
    refine x_icmpn_gt (pc := 39) (tgt := 46) (a := (far (ce bi) ta)) (b := YV) dX10_doesOf_39 (by decide) (by omega) (by omega) (fun c39 => ?_) (fun c39 => ?_)
    · skip
      refine x_iconst (pc := 46) (v := 0) dX10_doesOf_46 (by decide) ?_
      refine x_istore (pc := 47) (lv' := [(0, .ref M), (1, .int (nI bi)), (2, .int (nI (far (ce bi) ta))), (3, .int 1), (4, .int 0)]) dX10_doesOf_47 (by decide) rfl ?_
      refine x_aload_n (pc := 49) dX10_doesOf_49 rfl rfl ?_
      refine x_iload_n (pc := 50) dX10_doesOf_50 rfl rfl ?_
      refine x_aload_n (pc := 51) dX10_doesOf_51 rfl rfl ?_
      refine x_get (pc := 52) dX10_doesOf_52 kf_RX10_92 h.1.s rfl ?_
      rw [hta]
      refine x_iconst (pc := 55) (v := 0) dX10_doesOf_55 (by decide) ?_
      refine x_iconst (pc := 56) (v := 1) dX10_doesOf_56 (by decide) ?_
      refine x_callV (pc := 57) (As := [.int _, .int _, .int _, .int _]) dX10_doesOf_57 km_X10_nextBy kv_X10_nextBy kl_RX10_334 h.1.s rfl rfl (by decide) ⟨Nat.le_refl _, Nat.le_refl _⟩ rfl (Nat.le_of_ble_eq_true rfl) (Nat.le_of_ble_eq_true rfl) (m_nextBy_y h2 hb ht (⟨rfl, rfl, ?_⟩))
      rw [yPk2]
      refine x_istore (pc := 60) (lv' := [(0, .ref M), (1, .int (nI bi)), (2, .int (nI (far (ce bi) ta))), (3, .int 1), (4, .int 0), (5, .int (nI (yPk nb ce ta (ce bi) 4)))]) dX10_doesOf_60 (by decide) rfl ?_
      refine x_aload_n (pc := 62) dX10_doesOf_62 rfl rfl ?_
      refine x_iload_n (pc := 63) dX10_doesOf_63 rfl rfl ?_
      refine x_aload_n (pc := 64) dX10_doesOf_64 rfl rfl ?_
      refine x_get (pc := 65) dX10_doesOf_65 kf_RX10_92 h.1.s rfl ?_
      rw [hta]
      refine x_iconst (pc := 68) (v := 1) dX10_doesOf_68 (by decide) ?_
      refine x_iconst (pc := 69) (v := 0) dX10_doesOf_69 (by decide) ?_
      refine x_callV (pc := 70) (As := [.int _, .int _, .int _, .int _]) dX10_doesOf_70 km_X10_nextBy kv_X10_nextBy kl_RX10_334 h.1.s rfl rfl (by decide) ⟨Nat.le_refl _, Nat.le_refl _⟩ rfl (Nat.le_of_ble_eq_true rfl) (Nat.le_of_ble_eq_true rfl) (m_nextBy_c h2 hb ht (⟨rfl, rfl, ?_⟩))
      rw [show pick (cOk nb ce true ta) (cBet ta) (ce bi) 4 = cPk nb ce true ta ta (ce bi) 4 from rfl]
      refine x_istore (pc := 73) (lv' := [(0, .ref M), (1, .int (nI bi)), (2, .int (nI (far (ce bi) ta))), (3, .int 1), (4, .int 0), (5, .int (nI (yPk nb ce ta (ce bi) 4))), (6, .int (nI (cPk nb ce true ta ta (ce bi) 4)))]) dX10_doesOf_73 (by decide) rfl ?_
      refine x_aload_n (pc := 75) dX10_doesOf_75 rfl rfl ?_
      refine x_aload_n (pc := 76) dX10_doesOf_76 rfl rfl ?_
      refine x_getr (pc := 77) dX10_doesOf_77 kf_RX10_101 h.1.s rfl h.1.f15 ?_
      refine x_iload_n (pc := 80) dX10_doesOf_80 rfl rfl ?_
      refine x_ialdn (pc := 81) (a := bi) dX10_doesOf_81 h.1.s15 (by omega) (by omega) ?_
      rw [hc bi hb]
      refine x_put (pc := 82) dX10_doesOf_82 kf_RX10_123 h.1.s rfl (Or.inl kb_10_37) ?_
      have h3 := h2.keep (mdFr.fld (k := 37) (x := nI (ce bi)) (by omega))
      obtain ⟨hM, hn6, hnb, hki, hve, hc, hsto, hhu, hbd, hta, ht, hte, hte2, hlo, hlo2, hln⟩ := id h3
      have fin : ∀ d z, deedN nb ki ve ce sto hu ta te lo (lnO o) bi = (d, z) → P (n, sh, 0, 0) (up2 (up2 I2 M 37 (nI (ce bi))) M 37 (nI z)) R L (some (.int (nI d))) := fun d z e => by
        have h9 := K _ (g1.tr ((mdFr.fld (k := 37) (x := nI (ce bi)) (by omega)).tr (mdFr.fld (k := 37) (x := nI z) (by omega)))) (by rw [e]; exact up2_s)
        rw [e] at h9
        exact h9
      refine x_iload_n (pc := 85) dX10_doesOf_85 rfl rfl ?_
      refine x_if_eq_f (pc := 86) (tgt := 93) dX10_doesOf_86 (by decide) (by decide) ?_
      refine x_iconst (pc := 89) (v := 2) dX10_doesOf_89 (by decide) ?_
      refine x_goto (pc := 90) (tgt := 103) dX10_doesOf_90 (by decide) ?_
      refine x_istore (pc := 103) (lv' := [(0, .ref M), (1, .int (nI bi)), (2, .int (nI (far (ce bi) ta))), (3, .int 1), (4, .int 0), (5, .int (nI (yPk nb ce ta (ce bi) 4))), (6, .int (nI (cPk nb ce true ta ta (ce bi) 4))), (7, .int 2)]) dX10_doesOf_103 (by decide) rfl ?_
      refine x_aload_n (pc := 105) dX10_doesOf_105 rfl rfl ?_
      refine x_getr (pc := 106) dX10_doesOf_106 kf_RX10_104 h.1.s rfl h.1.f16 ?_
      refine x_iload_n (pc := 109) dX10_doesOf_109 rfl rfl ?_
      refine x_ialdn (pc := 110) (a := bi) dX10_doesOf_110 h.1.s16 (by omega) (by omega) ?_
      rw [hki bi hb, hk, show nI 5 = 5 from rfl]
      refine x_tsw (pc := 111) (dt := 320) [(1, 148), (2, 320), (3, 167), (4, 201), (5, 235), (6, 283)] dX10_doesOf_111 (by decide +kernel) (by decide) ?_
      refine xsw_c (fun h => absurd h (by decide)) (fun _ => ?_)
      refine xsw_c (fun h => absurd h (by decide)) (fun _ => ?_)
      refine xsw_c (fun h => absurd h (by decide)) (fun _ => ?_)
      refine xsw_c (fun h => absurd h (by decide)) (fun _ => ?_)
      refine xsw_c (fun _ => ?_) (fun h => absurd rfl h)
      refine x_iload_n (pc := 235) dX10_doesOf_235 rfl rfl ?_
      refine x_if_ne_t (pc := 236) (tgt := 244) dX10_doesOf_236 (by decide) (by decide) ?_
      refine x_iconst (pc := 244) (v := 1) dX10_doesOf_244 (by decide) ?_
      refine x_goto (pc := 245) (tgt := 278) dX10_doesOf_245 (by decide) ?_
      refine x_istore (pc := 278) (lv' := [(0, .ref M), (1, .int (nI bi)), (2, .int (nI (far (ce bi) ta))), (3, .int 1), (4, .int 0), (5, .int (nI (yPk nb ce ta (ce bi) 4))), (6, .int (nI (cPk nb ce true ta ta (ce bi) 4))), (7, .int 1)]) dX10_doesOf_278 (by decide) rfl ?_
      refine x_goto (pc := 280) (tgt := 320) dX10_doesOf_280 (by decide) ?_
      refine x_aload_n (pc := 320) dX10_doesOf_320 rfl rfl ?_
      refine x_iload (pc := 321) dX10_doesOf_321 rfl ?_
      refine x_iconst (pc := 323) (v := 1) dX10_doesOf_323 (by decide) ?_
      refine x_icmp_ne_f (pc := 324) (tgt := 332) dX10_doesOf_324 (by decide) (by decide) ?_
      refine x_iload (pc := 327) dX10_doesOf_327 rfl ?_
      refine x_goto (pc := 329) (tgt := 371) dX10_doesOf_329 (by decide) ?_
      refine x_put (pc := 371) dX10_doesOf_371 kf_RX10_123 h.1.s rfl (Or.inl kb_10_37) ?_
      refine x_aload_n (pc := 374) dX10_doesOf_374 rfl rfl ?_
      refine x_get (pc := 375) dX10_doesOf_375 kf_RX10_123 h.1.s rfl ?_
      rw [up2_s]
      refine x_aload_n (pc := 378) dX10_doesOf_378 rfl rfl ?_
      refine x_getr (pc := 379) dX10_doesOf_379 kf_RX10_101 h.1.s rfl h.1.f15 ?_
      refine x_iload_n (pc := 382) dX10_doesOf_382 rfl rfl ?_
      refine x_ialdn (pc := 383) (a := bi) dX10_doesOf_383 h.1.s15 (by omega) (by omega) ?_
      rw [up2_a (show M + 16 ≠ M by omega), hc bi hb]
      refine x_icmpn_ne (pc := 384) (tgt := 391) (a := (yPk nb ce ta (ce bi) 4)) (b := (ce bi)) dX10_doesOf_384 (by decide) (by omega) (by omega) (fun c384 => ?_) (fun c384 => ?_)
      · skip
        refine x_iload (pc := 391) dX10_doesOf_391 rfl ?_
        refine x_ireturn (pc := 393) dX10_doesOf_393 ⟨_, rfl, rfl⟩ ⟨Nat.le_refl _, Nat.le_refl _⟩ ?_
        have hd : deedN nb ki ve ce sto hu ta te lo (lnO o) bi = (1, (yPk nb ce ta (ce bi) 4)) := by
          rw [hdN]
          simp [deedF, yDeed, dCome, show isOne 5 1 = true from by decide, c25, Nat.not_le.mpr c39, c384]
        exact fin 1 _ hd
      · skip
        refine x_iconst (pc := 387) (v := 0) dX10_doesOf_387 (by decide) ?_
        refine x_goto (pc := 388) (tgt := 393) dX10_doesOf_388 (by decide) ?_
        refine x_ireturn (pc := 393) dX10_doesOf_393 ⟨_, rfl, rfl⟩ ⟨Nat.le_refl _, Nat.le_refl _⟩ ?_
        have hd : deedN nb ki ve ce sto hu ta te lo (lnO o) bi = (0, (yPk nb ce ta (ce bi) 4)) := by
          rw [hdN]
          simp [deedF, yDeed, dCome, show isOne 5 1 = true from by decide, c25, Nat.not_le.mpr c39, c384]
        exact fin 0 _ hd
    · skip
      refine x_iconst (pc := 42) (v := 1) dX10_doesOf_42 (by decide) ?_
      refine x_goto (pc := 43) (tgt := 47) dX10_doesOf_43 (by decide) ?_
      refine x_istore (pc := 47) (lv' := [(0, .ref M), (1, .int (nI bi)), (2, .int (nI (far (ce bi) ta))), (3, .int 1), (4, .int 1)]) dX10_doesOf_47 (by decide) rfl ?_
      refine x_aload_n (pc := 49) dX10_doesOf_49 rfl rfl ?_
      refine x_iload_n (pc := 50) dX10_doesOf_50 rfl rfl ?_
      refine x_aload_n (pc := 51) dX10_doesOf_51 rfl rfl ?_
      refine x_get (pc := 52) dX10_doesOf_52 kf_RX10_92 h.1.s rfl ?_
      rw [hta]
      refine x_iconst (pc := 55) (v := 0) dX10_doesOf_55 (by decide) ?_
      refine x_iconst (pc := 56) (v := 1) dX10_doesOf_56 (by decide) ?_
      refine x_callV (pc := 57) (As := [.int _, .int _, .int _, .int _]) dX10_doesOf_57 km_X10_nextBy kv_X10_nextBy kl_RX10_334 h.1.s rfl rfl (by decide) ⟨Nat.le_refl _, Nat.le_refl _⟩ rfl (Nat.le_of_ble_eq_true rfl) (Nat.le_of_ble_eq_true rfl) (m_nextBy_y h2 hb ht (⟨rfl, rfl, ?_⟩))
      rw [yPk2]
      refine x_istore (pc := 60) (lv' := [(0, .ref M), (1, .int (nI bi)), (2, .int (nI (far (ce bi) ta))), (3, .int 1), (4, .int 1), (5, .int (nI (yPk nb ce ta (ce bi) 4)))]) dX10_doesOf_60 (by decide) rfl ?_
      refine x_aload_n (pc := 62) dX10_doesOf_62 rfl rfl ?_
      refine x_iload_n (pc := 63) dX10_doesOf_63 rfl rfl ?_
      refine x_aload_n (pc := 64) dX10_doesOf_64 rfl rfl ?_
      refine x_get (pc := 65) dX10_doesOf_65 kf_RX10_92 h.1.s rfl ?_
      rw [hta]
      refine x_iconst (pc := 68) (v := 1) dX10_doesOf_68 (by decide) ?_
      refine x_iconst (pc := 69) (v := 0) dX10_doesOf_69 (by decide) ?_
      refine x_callV (pc := 70) (As := [.int _, .int _, .int _, .int _]) dX10_doesOf_70 km_X10_nextBy kv_X10_nextBy kl_RX10_334 h.1.s rfl rfl (by decide) ⟨Nat.le_refl _, Nat.le_refl _⟩ rfl (Nat.le_of_ble_eq_true rfl) (Nat.le_of_ble_eq_true rfl) (m_nextBy_c h2 hb ht (⟨rfl, rfl, ?_⟩))
      rw [show pick (cOk nb ce true ta) (cBet ta) (ce bi) 4 = cPk nb ce true ta ta (ce bi) 4 from rfl]
      refine x_istore (pc := 73) (lv' := [(0, .ref M), (1, .int (nI bi)), (2, .int (nI (far (ce bi) ta))), (3, .int 1), (4, .int 1), (5, .int (nI (yPk nb ce ta (ce bi) 4))), (6, .int (nI (cPk nb ce true ta ta (ce bi) 4)))]) dX10_doesOf_73 (by decide) rfl ?_
      refine x_aload_n (pc := 75) dX10_doesOf_75 rfl rfl ?_
      refine x_aload_n (pc := 76) dX10_doesOf_76 rfl rfl ?_
      refine x_getr (pc := 77) dX10_doesOf_77 kf_RX10_101 h.1.s rfl h.1.f15 ?_
      refine x_iload_n (pc := 80) dX10_doesOf_80 rfl rfl ?_
      refine x_ialdn (pc := 81) (a := bi) dX10_doesOf_81 h.1.s15 (by omega) (by omega) ?_
      rw [hc bi hb]
      refine x_put (pc := 82) dX10_doesOf_82 kf_RX10_123 h.1.s rfl (Or.inl kb_10_37) ?_
      have h3 := h2.keep (mdFr.fld (k := 37) (x := nI (ce bi)) (by omega))
      obtain ⟨hM, hn6, hnb, hki, hve, hc, hsto, hhu, hbd, hta, ht, hte, hte2, hlo, hlo2, hln⟩ := id h3
      have fin : ∀ d z, deedN nb ki ve ce sto hu ta te lo (lnO o) bi = (d, z) → P (n, sh, 0, 0) (up2 (up2 I2 M 37 (nI (ce bi))) M 37 (nI z)) R L (some (.int (nI d))) := fun d z e => by
        have h9 := K _ (g1.tr ((mdFr.fld (k := 37) (x := nI (ce bi)) (by omega)).tr (mdFr.fld (k := 37) (x := nI z) (by omega)))) (by rw [e]; exact up2_s)
        rw [e] at h9
        exact h9
      refine x_iload_n (pc := 85) dX10_doesOf_85 rfl rfl ?_
      refine x_if_eq_f (pc := 86) (tgt := 93) dX10_doesOf_86 (by decide) (by decide) ?_
      refine x_iconst (pc := 89) (v := 2) dX10_doesOf_89 (by decide) ?_
      refine x_goto (pc := 90) (tgt := 103) dX10_doesOf_90 (by decide) ?_
      refine x_istore (pc := 103) (lv' := [(0, .ref M), (1, .int (nI bi)), (2, .int (nI (far (ce bi) ta))), (3, .int 1), (4, .int 1), (5, .int (nI (yPk nb ce ta (ce bi) 4))), (6, .int (nI (cPk nb ce true ta ta (ce bi) 4))), (7, .int 2)]) dX10_doesOf_103 (by decide) rfl ?_
      refine x_aload_n (pc := 105) dX10_doesOf_105 rfl rfl ?_
      refine x_getr (pc := 106) dX10_doesOf_106 kf_RX10_104 h.1.s rfl h.1.f16 ?_
      refine x_iload_n (pc := 109) dX10_doesOf_109 rfl rfl ?_
      refine x_ialdn (pc := 110) (a := bi) dX10_doesOf_110 h.1.s16 (by omega) (by omega) ?_
      rw [hki bi hb, hk, show nI 5 = 5 from rfl]
      refine x_tsw (pc := 111) (dt := 320) [(1, 148), (2, 320), (3, 167), (4, 201), (5, 235), (6, 283)] dX10_doesOf_111 (by decide +kernel) (by decide) ?_
      refine xsw_c (fun h => absurd h (by decide)) (fun _ => ?_)
      refine xsw_c (fun h => absurd h (by decide)) (fun _ => ?_)
      refine xsw_c (fun h => absurd h (by decide)) (fun _ => ?_)
      refine xsw_c (fun h => absurd h (by decide)) (fun _ => ?_)
      refine xsw_c (fun _ => ?_) (fun h => absurd rfl h)
      refine x_iload_n (pc := 235) dX10_doesOf_235 rfl rfl ?_
      refine x_if_ne_t (pc := 236) (tgt := 244) dX10_doesOf_236 (by decide) (by decide) ?_
      refine x_iconst (pc := 244) (v := 1) dX10_doesOf_244 (by decide) ?_
      refine x_goto (pc := 245) (tgt := 278) dX10_doesOf_245 (by decide) ?_
      refine x_istore (pc := 278) (lv' := [(0, .ref M), (1, .int (nI bi)), (2, .int (nI (far (ce bi) ta))), (3, .int 1), (4, .int 1), (5, .int (nI (yPk nb ce ta (ce bi) 4))), (6, .int (nI (cPk nb ce true ta ta (ce bi) 4))), (7, .int 1)]) dX10_doesOf_278 (by decide) rfl ?_
      refine x_goto (pc := 280) (tgt := 320) dX10_doesOf_280 (by decide) ?_
      refine x_aload_n (pc := 320) dX10_doesOf_320 rfl rfl ?_
      refine x_iload (pc := 321) dX10_doesOf_321 rfl ?_
      refine x_iconst (pc := 323) (v := 1) dX10_doesOf_323 (by decide) ?_
      refine x_icmp_ne_f (pc := 324) (tgt := 332) dX10_doesOf_324 (by decide) (by decide) ?_
      refine x_iload (pc := 327) dX10_doesOf_327 rfl ?_
      refine x_goto (pc := 329) (tgt := 371) dX10_doesOf_329 (by decide) ?_
      refine x_put (pc := 371) dX10_doesOf_371 kf_RX10_123 h.1.s rfl (Or.inl kb_10_37) ?_
      refine x_aload_n (pc := 374) dX10_doesOf_374 rfl rfl ?_
      refine x_get (pc := 375) dX10_doesOf_375 kf_RX10_123 h.1.s rfl ?_
      rw [up2_s]
      refine x_aload_n (pc := 378) dX10_doesOf_378 rfl rfl ?_
      refine x_getr (pc := 379) dX10_doesOf_379 kf_RX10_101 h.1.s rfl h.1.f15 ?_
      refine x_iload_n (pc := 382) dX10_doesOf_382 rfl rfl ?_
      refine x_ialdn (pc := 383) (a := bi) dX10_doesOf_383 h.1.s15 (by omega) (by omega) ?_
      rw [up2_a (show M + 16 ≠ M by omega), hc bi hb]
      refine x_icmpn_ne (pc := 384) (tgt := 391) (a := (yPk nb ce ta (ce bi) 4)) (b := (ce bi)) dX10_doesOf_384 (by decide) (by omega) (by omega) (fun c384 => ?_) (fun c384 => ?_)
      · skip
        refine x_iload (pc := 391) dX10_doesOf_391 rfl ?_
        refine x_ireturn (pc := 393) dX10_doesOf_393 ⟨_, rfl, rfl⟩ ⟨Nat.le_refl _, Nat.le_refl _⟩ ?_
        have hd : deedN nb ki ve ce sto hu ta te lo (lnO o) bi = (1, (yPk nb ce ta (ce bi) 4)) := by
          rw [hdN]
          simp [deedF, yDeed, dCome, show isOne 5 1 = true from by decide, c25, c39, c384]
        exact fin 1 _ hd
      · skip
        refine x_iconst (pc := 387) (v := 0) dX10_doesOf_387 (by decide) ?_
        refine x_goto (pc := 388) (tgt := 393) dX10_doesOf_388 (by decide) ?_
        refine x_ireturn (pc := 393) dX10_doesOf_393 ⟨_, rfl, rfl⟩ ⟨Nat.le_refl _, Nat.le_refl _⟩ ?_
        have hd : deedN nb ki ve ce sto hu ta te lo (lnO o) bi = (0, (yPk nb ce ta (ce bi) 4)) := by
          rw [hdN]
          simp [deedF, yDeed, dCome, show isOne 5 1 = true from by decide, c25, c39, c384]
        exact fin 0 _ hd

set_option maxHeartbeats 4000000 in
set_option maxRecDepth 100000 in
theorem m_doesOf_6 {T : xT} {n : Nat} {sh : Nat → Nat × Nat} {I : xI} {R : xR} {L : xL} {P : xPost} {M nb ta te lo : Nat} {ki ve ce sto hu : Nat → Nat} {o : Option xAR} {bi : Nat} (h : MS sh R I M nb ki ve ce sto hu ta te lo o) (hb : bi < nb) (hk : ki bi = 6) (K : ∀ I2 : xI, mdFr M I I2 → I2 M 37 = nI (deedN nb ki ve ce sto hu ta te lo (lnO o) bi).2 → P (n, sh, 0, 0) I2 R L (some (.int (nI (deedN nb ki ve ce sto hu ta te lo (lnO o) bi).1)))) : XM T zX10_doesOf 4 [.ref M, .int (nI bi)] n sh I R L P := by
  have hM0 := h.1
  refine x_aload_n (pc := 0) dX10_doesOf_0 rfl rfl ?_
  refine x_iload_n (pc := 1) dX10_doesOf_1 rfl rfl ?_
  refine x_callV (pc := 2) (As := [.int _]) dX10_doesOf_2 km_X10_layLines kv_X10_layLines kl_RX10_331 h.1.s rfl rfl (by decide) ⟨Nat.le_refl _, Nat.le_refl _⟩ rfl (Nat.le_of_ble_eq_true rfl) (Nat.le_of_ble_eq_true rfl) (m_layLines h hb (fun I2 g1 y2 c2 => ⟨rfl, rfl, ?_⟩))
  have h2 := h.keep g1
  obtain ⟨hM, hn6, hnb, hki, hve, hc, hsto, hhu, hbd, hta, ht, hte, hte2, hlo, hlo2, hln⟩ := id h2
  have hce : ∀ i, i < nb → ce i < 36 := fun i hi => (hbd i hi).2.2.1
  obtain ⟨hk7, hv10, hc36, hs36, hu10⟩ := hbd bi hb
  have hfl := far_lt hc36 ht
  have hfs := far_lt hc36 hs36
  have hyl : ylOf (lnAt (lnO o) nb ce hu te bi) lo < 200 := by unfold ylOf; have := mn_le (a := (lnAt (lnO o) nb ce hu te bi).1) (b := 9); omega
  have hcl : clOf (lnAt (lnO o) nb ce hu te bi) (ki bi) (ve bi) lo < 200 := by unfold clOf; have h1 : cm (mn (lnAt (lnO o) nb ce hu te bi).1 9) (lnAt (lnO o) nb ce hu te bi).2 ≤ 9 := (by unfold cm; split; omega; have := mn_le (a := (lnAt (lnO o) nb ce hu te bi).1) (b := 9); have := mn_le (a := (lnAt (lnO o) nb ce hu te bi).2) (b := mn (lnAt (lnO o) nb ce hu te bi).1 9 - 1); omega); split <;> omega
  obtain ⟨YV, hYV⟩ : ∃ z, z = ylOf (lnAt (lnO o) nb ce hu te bi) lo := ⟨_, rfl⟩
  obtain ⟨CV, hCV⟩ : ∃ z, z = clOf (lnAt (lnO o) nb ce hu te bi) (ki bi) (ve bi) lo := ⟨_, rfl⟩
  rw [← hYV] at y2 hyl
  rw [← hCV] at c2 hcl
  have hdN : deedN nb ki ve ce sto hu ta te lo (lnO o) bi = deedF nb ce 6 (ve bi) (sto bi) ta te YV CV (ce bi) := by unfold deedN; rw [hYV, hCV, hk]
  have hy36 : yPk nb ce ta (ce bi) 4 < 36 := pick_lt hc36 4
  have hq36 : cPk nb ce true ta ta (ce bi) 4 < 36 := pick_lt hc36 4
  have hs4 : cPk nb ce false ta (sto bi) (ce bi) 4 < 36 := pick_lt hc36 4
  refine x_aload_n (pc := 5) dX10_doesOf_5 rfl rfl ?_
  refine x_aload_n (pc := 6) dX10_doesOf_6 rfl rfl ?_
  refine x_getr (pc := 7) dX10_doesOf_7 kf_RX10_101 h.1.s rfl h.1.f15 ?_
  refine x_iload_n (pc := 10) dX10_doesOf_10 rfl rfl ?_
  refine x_ialdn (pc := 11) (a := bi) dX10_doesOf_11 h.1.s15 (by omega) (by omega) ?_
  rw [hc bi hb]
  refine x_aload_n (pc := 12) dX10_doesOf_12 rfl rfl ?_
  refine x_get (pc := 13) dX10_doesOf_13 kf_RX10_92 h.1.s rfl ?_
  rw [hta]
  refine x_callV (pc := 16) (As := [.int _, .int _]) dX10_doesOf_16 km_X10_far kv_X10_far kl_RX10_301 h.1.s rfl rfl (by decide) ⟨Nat.le_refl _, Nat.le_refl _⟩ rfl (Nat.le_of_ble_eq_true rfl) (Nat.le_of_ble_eq_true rfl) (m_far h.1.s hc36 ht (⟨rfl, rfl, ?_⟩))
  refine x_istore_n (pc := 19) (lv' := [(0, .ref M), (1, .int (nI bi)), (2, .int (nI (far (ce bi) ta)))]) dX10_doesOf_19 rfl (by decide) rfl ?_
  refine x_iload_n (pc := 20) dX10_doesOf_20 rfl rfl ?_
  refine x_aload_n (pc := 21) dX10_doesOf_21 rfl rfl ?_
  refine x_get (pc := 22) dX10_doesOf_22 kf_RX10_120 h.1.s rfl ?_
  rw [c2]
  refine x_icmpn_gt (pc := 25) (tgt := 32) (a := (far (ce bi) ta)) (b := CV) dX10_doesOf_25 (by decide) (by omega) (by omega) (fun c25 => ?_) (fun c25 => ?_)
  · skip
    refine x_iconst (pc := 32) (v := 0) dX10_doesOf_32 (by decide) ?_
    refine x_istore_n (pc := 33) (lv' := [(0, .ref M), (1, .int (nI bi)), (2, .int (nI (far (ce bi) ta))), (3, .int 0)]) dX10_doesOf_33 rfl (by decide) rfl ?_
    refine x_iload_n (pc := 34) dX10_doesOf_34 rfl rfl ?_
    refine x_aload_n (pc := 35) dX10_doesOf_35 rfl rfl ?_
    refine x_get (pc := 36) dX10_doesOf_36 kf_RX10_117 h.1.s rfl ?_
    rw [y2]
    refine x_icmpn_gt (pc := 39) (tgt := 46) (a := (far (ce bi) ta)) (b := YV) dX10_doesOf_39 (by decide) (by omega) (by omega) (fun c39 => ?_) (fun c39 => ?_)
    · skip
      refine x_iconst (pc := 46) (v := 0) dX10_doesOf_46 (by decide) ?_
      refine x_istore (pc := 47) (lv' := [(0, .ref M), (1, .int (nI bi)), (2, .int (nI (far (ce bi) ta))), (3, .int 0), (4, .int 0)]) dX10_doesOf_47 (by decide) rfl ?_
      refine x_aload_n (pc := 49) dX10_doesOf_49 rfl rfl ?_
      refine x_iload_n (pc := 50) dX10_doesOf_50 rfl rfl ?_
      refine x_aload_n (pc := 51) dX10_doesOf_51 rfl rfl ?_
      refine x_get (pc := 52) dX10_doesOf_52 kf_RX10_92 h.1.s rfl ?_
      rw [hta]
      refine x_iconst (pc := 55) (v := 0) dX10_doesOf_55 (by decide) ?_
      refine x_iconst (pc := 56) (v := 1) dX10_doesOf_56 (by decide) ?_
      refine x_callV (pc := 57) (As := [.int _, .int _, .int _, .int _]) dX10_doesOf_57 km_X10_nextBy kv_X10_nextBy kl_RX10_334 h.1.s rfl rfl (by decide) ⟨Nat.le_refl _, Nat.le_refl _⟩ rfl (Nat.le_of_ble_eq_true rfl) (Nat.le_of_ble_eq_true rfl) (m_nextBy_y h2 hb ht (⟨rfl, rfl, ?_⟩))
      rw [yPk2]
      refine x_istore (pc := 60) (lv' := [(0, .ref M), (1, .int (nI bi)), (2, .int (nI (far (ce bi) ta))), (3, .int 0), (4, .int 0), (5, .int (nI (yPk nb ce ta (ce bi) 4)))]) dX10_doesOf_60 (by decide) rfl ?_
      refine x_aload_n (pc := 62) dX10_doesOf_62 rfl rfl ?_
      refine x_iload_n (pc := 63) dX10_doesOf_63 rfl rfl ?_
      refine x_aload_n (pc := 64) dX10_doesOf_64 rfl rfl ?_
      refine x_get (pc := 65) dX10_doesOf_65 kf_RX10_92 h.1.s rfl ?_
      rw [hta]
      refine x_iconst (pc := 68) (v := 1) dX10_doesOf_68 (by decide) ?_
      refine x_iconst (pc := 69) (v := 0) dX10_doesOf_69 (by decide) ?_
      refine x_callV (pc := 70) (As := [.int _, .int _, .int _, .int _]) dX10_doesOf_70 km_X10_nextBy kv_X10_nextBy kl_RX10_334 h.1.s rfl rfl (by decide) ⟨Nat.le_refl _, Nat.le_refl _⟩ rfl (Nat.le_of_ble_eq_true rfl) (Nat.le_of_ble_eq_true rfl) (m_nextBy_c h2 hb ht (⟨rfl, rfl, ?_⟩))
      rw [show pick (cOk nb ce true ta) (cBet ta) (ce bi) 4 = cPk nb ce true ta ta (ce bi) 4 from rfl]
      refine x_istore (pc := 73) (lv' := [(0, .ref M), (1, .int (nI bi)), (2, .int (nI (far (ce bi) ta))), (3, .int 0), (4, .int 0), (5, .int (nI (yPk nb ce ta (ce bi) 4))), (6, .int (nI (cPk nb ce true ta ta (ce bi) 4)))]) dX10_doesOf_73 (by decide) rfl ?_
      refine x_aload_n (pc := 75) dX10_doesOf_75 rfl rfl ?_
      refine x_aload_n (pc := 76) dX10_doesOf_76 rfl rfl ?_
      refine x_getr (pc := 77) dX10_doesOf_77 kf_RX10_101 h.1.s rfl h.1.f15 ?_
      refine x_iload_n (pc := 80) dX10_doesOf_80 rfl rfl ?_
      refine x_ialdn (pc := 81) (a := bi) dX10_doesOf_81 h.1.s15 (by omega) (by omega) ?_
      rw [hc bi hb]
      refine x_put (pc := 82) dX10_doesOf_82 kf_RX10_123 h.1.s rfl (Or.inl kb_10_37) ?_
      have h3 := h2.keep (mdFr.fld (k := 37) (x := nI (ce bi)) (by omega))
      obtain ⟨hM, hn6, hnb, hki, hve, hc, hsto, hhu, hbd, hta, ht, hte, hte2, hlo, hlo2, hln⟩ := id h3
      have fin : ∀ d z, deedN nb ki ve ce sto hu ta te lo (lnO o) bi = (d, z) → P (n, sh, 0, 0) (up2 (up2 I2 M 37 (nI (ce bi))) M 37 (nI z)) R L (some (.int (nI d))) := fun d z e => by
        have h9 := K _ (g1.tr ((mdFr.fld (k := 37) (x := nI (ce bi)) (by omega)).tr (mdFr.fld (k := 37) (x := nI z) (by omega)))) (by rw [e]; exact up2_s)
        rw [e] at h9
        exact h9
      refine x_iload_n (pc := 85) dX10_doesOf_85 rfl rfl ?_
      refine x_if_eq_t (pc := 86) (tgt := 93) dX10_doesOf_86 (by decide) (by decide) ?_
      refine x_iload (pc := 93) dX10_doesOf_93 rfl ?_
      refine x_if_eq_t (pc := 95) (tgt := 102) dX10_doesOf_95 (by decide) (by decide) ?_
      refine x_iconst (pc := 102) (v := 0) dX10_doesOf_102 (by decide) ?_
      refine x_istore (pc := 103) (lv' := [(0, .ref M), (1, .int (nI bi)), (2, .int (nI (far (ce bi) ta))), (3, .int 0), (4, .int 0), (5, .int (nI (yPk nb ce ta (ce bi) 4))), (6, .int (nI (cPk nb ce true ta ta (ce bi) 4))), (7, .int 0)]) dX10_doesOf_103 (by decide) rfl ?_
      refine x_aload_n (pc := 105) dX10_doesOf_105 rfl rfl ?_
      refine x_getr (pc := 106) dX10_doesOf_106 kf_RX10_104 h.1.s rfl h.1.f16 ?_
      refine x_iload_n (pc := 109) dX10_doesOf_109 rfl rfl ?_
      refine x_ialdn (pc := 110) (a := bi) dX10_doesOf_110 h.1.s16 (by omega) (by omega) ?_
      rw [hki bi hb, hk, show nI 6 = 6 from rfl]
      refine x_tsw (pc := 111) (dt := 320) [(1, 148), (2, 320), (3, 167), (4, 201), (5, 235), (6, 283)] dX10_doesOf_111 (by decide +kernel) (by decide) ?_
      refine xsw_c (fun h => absurd h (by decide)) (fun _ => ?_)
      refine xsw_c (fun h => absurd h (by decide)) (fun _ => ?_)
      refine xsw_c (fun h => absurd h (by decide)) (fun _ => ?_)
      refine xsw_c (fun h => absurd h (by decide)) (fun _ => ?_)
      refine xsw_c (fun h => absurd h (by decide)) (fun _ => ?_)
      refine xsw_c (fun _ => ?_) (fun h => absurd rfl h)
      refine x_iload (pc := 283) dX10_doesOf_283 rfl ?_
      refine x_iconst (pc := 285) (v := 2) dX10_doesOf_285 (by decide) ?_
      refine x_icmp_ne_t (pc := 286) (tgt := 313) dX10_doesOf_286 (by decide) (by decide) ?_
      refine x_iload (pc := 313) dX10_doesOf_313 rfl ?_
      refine x_istore (pc := 315) (lv' := [(0, .ref M), (1, .int (nI bi)), (2, .int (nI (far (ce bi) ta))), (3, .int 0), (4, .int 0), (5, .int (nI (yPk nb ce ta (ce bi) 4))), (6, .int (nI (cPk nb ce true ta ta (ce bi) 4))), (7, .int 0)]) dX10_doesOf_315 (by decide) rfl ?_
      refine x_goto (pc := 317) (tgt := 320) dX10_doesOf_317 (by decide) ?_
      refine x_aload_n (pc := 320) dX10_doesOf_320 rfl rfl ?_
      refine x_iload (pc := 321) dX10_doesOf_321 rfl ?_
      refine x_iconst (pc := 323) (v := 1) dX10_doesOf_323 (by decide) ?_
      refine x_icmp_ne_t (pc := 324) (tgt := 332) dX10_doesOf_324 (by decide) (by decide) ?_
      refine x_iload (pc := 332) dX10_doesOf_332 rfl ?_
      refine x_iconst (pc := 334) (v := 2) dX10_doesOf_334 (by decide) ?_
      refine x_icmp_ne_t (pc := 335) (tgt := 343) dX10_doesOf_335 (by decide) (by decide) ?_
      refine x_iload (pc := 343) dX10_doesOf_343 rfl ?_
      refine x_iconst (pc := 345) (v := 3) dX10_doesOf_345 (by decide) ?_
      refine x_icmp_ne_t (pc := 346) (tgt := 365) dX10_doesOf_346 (by decide) (by decide) ?_
      refine x_aload_n (pc := 365) dX10_doesOf_365 rfl rfl ?_
      refine x_getr (pc := 366) dX10_doesOf_366 kf_RX10_101 h.1.s rfl h.1.f15 ?_
      refine x_iload_n (pc := 369) dX10_doesOf_369 rfl rfl ?_
      refine x_ialdn (pc := 370) (a := bi) dX10_doesOf_370 h.1.s15 (by omega) (by omega) ?_
      rw [hc bi hb]
      refine x_put (pc := 371) dX10_doesOf_371 kf_RX10_123 h.1.s rfl (Or.inl kb_10_37) ?_
      refine x_aload_n (pc := 374) dX10_doesOf_374 rfl rfl ?_
      refine x_get (pc := 375) dX10_doesOf_375 kf_RX10_123 h.1.s rfl ?_
      rw [up2_s]
      refine x_aload_n (pc := 378) dX10_doesOf_378 rfl rfl ?_
      refine x_getr (pc := 379) dX10_doesOf_379 kf_RX10_101 h.1.s rfl h.1.f15 ?_
      refine x_iload_n (pc := 382) dX10_doesOf_382 rfl rfl ?_
      refine x_ialdn (pc := 383) (a := bi) dX10_doesOf_383 h.1.s15 (by omega) (by omega) ?_
      rw [up2_a (show M + 16 ≠ M by omega), hc bi hb]
      refine x_icmp_ne_f (pc := 384) (tgt := 391) dX10_doesOf_384 (by decide) (rfl) ?_
      refine x_iconst (pc := 387) (v := 0) dX10_doesOf_387 (by decide) ?_
      refine x_goto (pc := 388) (tgt := 393) dX10_doesOf_388 (by decide) ?_
      refine x_ireturn (pc := 393) dX10_doesOf_393 ⟨_, rfl, rfl⟩ ⟨Nat.le_refl _, Nat.le_refl _⟩ ?_
      have hd : deedN nb ki ve ce sto hu ta te lo (lnO o) bi = (0, (ce bi)) := by
        rw [hdN]
        simp [deedF, yDeed, dCome, show isOne 6 1 = false from by decide, Nat.not_le.mpr c25, Nat.not_le.mpr c39]
      exact fin 0 _ hd
    · skip
      refine x_iconst (pc := 42) (v := 1) dX10_doesOf_42 (by decide) ?_
      refine x_goto (pc := 43) (tgt := 47) dX10_doesOf_43 (by decide) ?_
      refine x_istore (pc := 47) (lv' := [(0, .ref M), (1, .int (nI bi)), (2, .int (nI (far (ce bi) ta))), (3, .int 0), (4, .int 1)]) dX10_doesOf_47 (by decide) rfl ?_
      refine x_aload_n (pc := 49) dX10_doesOf_49 rfl rfl ?_
      refine x_iload_n (pc := 50) dX10_doesOf_50 rfl rfl ?_
      refine x_aload_n (pc := 51) dX10_doesOf_51 rfl rfl ?_
      refine x_get (pc := 52) dX10_doesOf_52 kf_RX10_92 h.1.s rfl ?_
      rw [hta]
      refine x_iconst (pc := 55) (v := 0) dX10_doesOf_55 (by decide) ?_
      refine x_iconst (pc := 56) (v := 1) dX10_doesOf_56 (by decide) ?_
      refine x_callV (pc := 57) (As := [.int _, .int _, .int _, .int _]) dX10_doesOf_57 km_X10_nextBy kv_X10_nextBy kl_RX10_334 h.1.s rfl rfl (by decide) ⟨Nat.le_refl _, Nat.le_refl _⟩ rfl (Nat.le_of_ble_eq_true rfl) (Nat.le_of_ble_eq_true rfl) (m_nextBy_y h2 hb ht (⟨rfl, rfl, ?_⟩))
      rw [yPk2]
      refine x_istore (pc := 60) (lv' := [(0, .ref M), (1, .int (nI bi)), (2, .int (nI (far (ce bi) ta))), (3, .int 0), (4, .int 1), (5, .int (nI (yPk nb ce ta (ce bi) 4)))]) dX10_doesOf_60 (by decide) rfl ?_
      refine x_aload_n (pc := 62) dX10_doesOf_62 rfl rfl ?_
      refine x_iload_n (pc := 63) dX10_doesOf_63 rfl rfl ?_
      refine x_aload_n (pc := 64) dX10_doesOf_64 rfl rfl ?_
      refine x_get (pc := 65) dX10_doesOf_65 kf_RX10_92 h.1.s rfl ?_
      rw [hta]
      refine x_iconst (pc := 68) (v := 1) dX10_doesOf_68 (by decide) ?_
      refine x_iconst (pc := 69) (v := 0) dX10_doesOf_69 (by decide) ?_
      refine x_callV (pc := 70) (As := [.int _, .int _, .int _, .int _]) dX10_doesOf_70 km_X10_nextBy kv_X10_nextBy kl_RX10_334 h.1.s rfl rfl (by decide) ⟨Nat.le_refl _, Nat.le_refl _⟩ rfl (Nat.le_of_ble_eq_true rfl) (Nat.le_of_ble_eq_true rfl) (m_nextBy_c h2 hb ht (⟨rfl, rfl, ?_⟩))
      rw [show pick (cOk nb ce true ta) (cBet ta) (ce bi) 4 = cPk nb ce true ta ta (ce bi) 4 from rfl]
      refine x_istore (pc := 73) (lv' := [(0, .ref M), (1, .int (nI bi)), (2, .int (nI (far (ce bi) ta))), (3, .int 0), (4, .int 1), (5, .int (nI (yPk nb ce ta (ce bi) 4))), (6, .int (nI (cPk nb ce true ta ta (ce bi) 4)))]) dX10_doesOf_73 (by decide) rfl ?_
      refine x_aload_n (pc := 75) dX10_doesOf_75 rfl rfl ?_
      refine x_aload_n (pc := 76) dX10_doesOf_76 rfl rfl ?_
      refine x_getr (pc := 77) dX10_doesOf_77 kf_RX10_101 h.1.s rfl h.1.f15 ?_
      refine x_iload_n (pc := 80) dX10_doesOf_80 rfl rfl ?_
      refine x_ialdn (pc := 81) (a := bi) dX10_doesOf_81 h.1.s15 (by omega) (by omega) ?_
      rw [hc bi hb]
      refine x_put (pc := 82) dX10_doesOf_82 kf_RX10_123 h.1.s rfl (Or.inl kb_10_37) ?_
      have h3 := h2.keep (mdFr.fld (k := 37) (x := nI (ce bi)) (by omega))
      obtain ⟨hM, hn6, hnb, hki, hve, hc, hsto, hhu, hbd, hta, ht, hte, hte2, hlo, hlo2, hln⟩ := id h3
      have fin : ∀ d z, deedN nb ki ve ce sto hu ta te lo (lnO o) bi = (d, z) → P (n, sh, 0, 0) (up2 (up2 I2 M 37 (nI (ce bi))) M 37 (nI z)) R L (some (.int (nI d))) := fun d z e => by
        have h9 := K _ (g1.tr ((mdFr.fld (k := 37) (x := nI (ce bi)) (by omega)).tr (mdFr.fld (k := 37) (x := nI z) (by omega)))) (by rw [e]; exact up2_s)
        rw [e] at h9
        exact h9
      refine x_iload_n (pc := 85) dX10_doesOf_85 rfl rfl ?_
      refine x_if_eq_t (pc := 86) (tgt := 93) dX10_doesOf_86 (by decide) (by decide) ?_
      refine x_iload (pc := 93) dX10_doesOf_93 rfl ?_
      refine x_if_eq_f (pc := 95) (tgt := 102) dX10_doesOf_95 (by decide) (by decide) ?_
      refine x_iconst (pc := 98) (v := 1) dX10_doesOf_98 (by decide) ?_
      refine x_goto (pc := 99) (tgt := 103) dX10_doesOf_99 (by decide) ?_
      refine x_istore (pc := 103) (lv' := [(0, .ref M), (1, .int (nI bi)), (2, .int (nI (far (ce bi) ta))), (3, .int 0), (4, .int 1), (5, .int (nI (yPk nb ce ta (ce bi) 4))), (6, .int (nI (cPk nb ce true ta ta (ce bi) 4))), (7, .int 1)]) dX10_doesOf_103 (by decide) rfl ?_
      refine x_aload_n (pc := 105) dX10_doesOf_105 rfl rfl ?_
      refine x_getr (pc := 106) dX10_doesOf_106 kf_RX10_104 h.1.s rfl h.1.f16 ?_
      refine x_iload_n (pc := 109) dX10_doesOf_109 rfl rfl ?_
      refine x_ialdn (pc := 110) (a := bi) dX10_doesOf_110 h.1.s16 (by omega) (by omega) ?_
      rw [hki bi hb, hk, show nI 6 = 6 from rfl]
      refine x_tsw (pc := 111) (dt := 320) [(1, 148), (2, 320), (3, 167), (4, 201), (5, 235), (6, 283)] dX10_doesOf_111 (by decide +kernel) (by decide) ?_
      refine xsw_c (fun h => absurd h (by decide)) (fun _ => ?_)
      refine xsw_c (fun h => absurd h (by decide)) (fun _ => ?_)
      refine xsw_c (fun h => absurd h (by decide)) (fun _ => ?_)
      refine xsw_c (fun h => absurd h (by decide)) (fun _ => ?_)
      refine xsw_c (fun h => absurd h (by decide)) (fun _ => ?_)
      refine xsw_c (fun _ => ?_) (fun h => absurd rfl h)
      refine x_iload (pc := 283) dX10_doesOf_283 rfl ?_
      refine x_iconst (pc := 285) (v := 2) dX10_doesOf_285 (by decide) ?_
      refine x_icmp_ne_t (pc := 286) (tgt := 313) dX10_doesOf_286 (by decide) (by decide) ?_
      refine x_iload (pc := 313) dX10_doesOf_313 rfl ?_
      refine x_istore (pc := 315) (lv' := [(0, .ref M), (1, .int (nI bi)), (2, .int (nI (far (ce bi) ta))), (3, .int 0), (4, .int 1), (5, .int (nI (yPk nb ce ta (ce bi) 4))), (6, .int (nI (cPk nb ce true ta ta (ce bi) 4))), (7, .int 1)]) dX10_doesOf_315 (by decide) rfl ?_
      refine x_goto (pc := 317) (tgt := 320) dX10_doesOf_317 (by decide) ?_
      refine x_aload_n (pc := 320) dX10_doesOf_320 rfl rfl ?_
      refine x_iload (pc := 321) dX10_doesOf_321 rfl ?_
      refine x_iconst (pc := 323) (v := 1) dX10_doesOf_323 (by decide) ?_
      refine x_icmp_ne_f (pc := 324) (tgt := 332) dX10_doesOf_324 (by decide) (by decide) ?_
      refine x_iload (pc := 327) dX10_doesOf_327 rfl ?_
      refine x_goto (pc := 329) (tgt := 371) dX10_doesOf_329 (by decide) ?_
      refine x_put (pc := 371) dX10_doesOf_371 kf_RX10_123 h.1.s rfl (Or.inl kb_10_37) ?_
      refine x_aload_n (pc := 374) dX10_doesOf_374 rfl rfl ?_
      refine x_get (pc := 375) dX10_doesOf_375 kf_RX10_123 h.1.s rfl ?_
      rw [up2_s]
      refine x_aload_n (pc := 378) dX10_doesOf_378 rfl rfl ?_
      refine x_getr (pc := 379) dX10_doesOf_379 kf_RX10_101 h.1.s rfl h.1.f15 ?_
      refine x_iload_n (pc := 382) dX10_doesOf_382 rfl rfl ?_
      refine x_ialdn (pc := 383) (a := bi) dX10_doesOf_383 h.1.s15 (by omega) (by omega) ?_
      rw [up2_a (show M + 16 ≠ M by omega), hc bi hb]
      refine x_icmpn_ne (pc := 384) (tgt := 391) (a := (yPk nb ce ta (ce bi) 4)) (b := (ce bi)) dX10_doesOf_384 (by decide) (by omega) (by omega) (fun c384 => ?_) (fun c384 => ?_)
      · skip
        refine x_iload (pc := 391) dX10_doesOf_391 rfl ?_
        refine x_ireturn (pc := 393) dX10_doesOf_393 ⟨_, rfl, rfl⟩ ⟨Nat.le_refl _, Nat.le_refl _⟩ ?_
        have hd : deedN nb ki ve ce sto hu ta te lo (lnO o) bi = (1, (yPk nb ce ta (ce bi) 4)) := by
          rw [hdN]
          simp [deedF, yDeed, dCome, show isOne 6 1 = false from by decide, Nat.not_le.mpr c25, c39, c384]
        exact fin 1 _ hd
      · skip
        refine x_iconst (pc := 387) (v := 0) dX10_doesOf_387 (by decide) ?_
        refine x_goto (pc := 388) (tgt := 393) dX10_doesOf_388 (by decide) ?_
        refine x_ireturn (pc := 393) dX10_doesOf_393 ⟨_, rfl, rfl⟩ ⟨Nat.le_refl _, Nat.le_refl _⟩ ?_
        have hd : deedN nb ki ve ce sto hu ta te lo (lnO o) bi = (0, (yPk nb ce ta (ce bi) 4)) := by
          rw [hdN]
          simp [deedF, yDeed, dCome, show isOne 6 1 = false from by decide, Nat.not_le.mpr c25, c39, c384]
        exact fin 0 _ hd
  · skip
    refine x_iconst (pc := 28) (v := 1) dX10_doesOf_28 (by decide) ?_
    refine x_goto (pc := 29) (tgt := 33) dX10_doesOf_29 (by decide) ?_
    refine x_istore_n (pc := 33) (lv' := [(0, .ref M), (1, .int (nI bi)), (2, .int (nI (far (ce bi) ta))), (3, .int 1)]) dX10_doesOf_33 rfl (by decide) rfl ?_
    refine x_iload_n (pc := 34) dX10_doesOf_34 rfl rfl ?_
    refine x_aload_n (pc := 35) dX10_doesOf_35 rfl rfl ?_
    refine x_get (pc := 36) dX10_doesOf_36 kf_RX10_117 h.1.s rfl ?_
    rw [y2]
    refine x_icmpn_gt (pc := 39) (tgt := 46) (a := (far (ce bi) ta)) (b := YV) dX10_doesOf_39 (by decide) (by omega) (by omega) (fun c39 => ?_) (fun c39 => ?_)
    · skip
      refine x_iconst (pc := 46) (v := 0) dX10_doesOf_46 (by decide) ?_
      refine x_istore (pc := 47) (lv' := [(0, .ref M), (1, .int (nI bi)), (2, .int (nI (far (ce bi) ta))), (3, .int 1), (4, .int 0)]) dX10_doesOf_47 (by decide) rfl ?_
      refine x_aload_n (pc := 49) dX10_doesOf_49 rfl rfl ?_
      refine x_iload_n (pc := 50) dX10_doesOf_50 rfl rfl ?_
      refine x_aload_n (pc := 51) dX10_doesOf_51 rfl rfl ?_
      refine x_get (pc := 52) dX10_doesOf_52 kf_RX10_92 h.1.s rfl ?_
      rw [hta]
      refine x_iconst (pc := 55) (v := 0) dX10_doesOf_55 (by decide) ?_
      refine x_iconst (pc := 56) (v := 1) dX10_doesOf_56 (by decide) ?_
      refine x_callV (pc := 57) (As := [.int _, .int _, .int _, .int _]) dX10_doesOf_57 km_X10_nextBy kv_X10_nextBy kl_RX10_334 h.1.s rfl rfl (by decide) ⟨Nat.le_refl _, Nat.le_refl _⟩ rfl (Nat.le_of_ble_eq_true rfl) (Nat.le_of_ble_eq_true rfl) (m_nextBy_y h2 hb ht (⟨rfl, rfl, ?_⟩))
      rw [yPk2]
      refine x_istore (pc := 60) (lv' := [(0, .ref M), (1, .int (nI bi)), (2, .int (nI (far (ce bi) ta))), (3, .int 1), (4, .int 0), (5, .int (nI (yPk nb ce ta (ce bi) 4)))]) dX10_doesOf_60 (by decide) rfl ?_
      refine x_aload_n (pc := 62) dX10_doesOf_62 rfl rfl ?_
      refine x_iload_n (pc := 63) dX10_doesOf_63 rfl rfl ?_
      refine x_aload_n (pc := 64) dX10_doesOf_64 rfl rfl ?_
      refine x_get (pc := 65) dX10_doesOf_65 kf_RX10_92 h.1.s rfl ?_
      rw [hta]
      refine x_iconst (pc := 68) (v := 1) dX10_doesOf_68 (by decide) ?_
      refine x_iconst (pc := 69) (v := 0) dX10_doesOf_69 (by decide) ?_
      refine x_callV (pc := 70) (As := [.int _, .int _, .int _, .int _]) dX10_doesOf_70 km_X10_nextBy kv_X10_nextBy kl_RX10_334 h.1.s rfl rfl (by decide) ⟨Nat.le_refl _, Nat.le_refl _⟩ rfl (Nat.le_of_ble_eq_true rfl) (Nat.le_of_ble_eq_true rfl) (m_nextBy_c h2 hb ht (⟨rfl, rfl, ?_⟩))
      rw [show pick (cOk nb ce true ta) (cBet ta) (ce bi) 4 = cPk nb ce true ta ta (ce bi) 4 from rfl]
      refine x_istore (pc := 73) (lv' := [(0, .ref M), (1, .int (nI bi)), (2, .int (nI (far (ce bi) ta))), (3, .int 1), (4, .int 0), (5, .int (nI (yPk nb ce ta (ce bi) 4))), (6, .int (nI (cPk nb ce true ta ta (ce bi) 4)))]) dX10_doesOf_73 (by decide) rfl ?_
      refine x_aload_n (pc := 75) dX10_doesOf_75 rfl rfl ?_
      refine x_aload_n (pc := 76) dX10_doesOf_76 rfl rfl ?_
      refine x_getr (pc := 77) dX10_doesOf_77 kf_RX10_101 h.1.s rfl h.1.f15 ?_
      refine x_iload_n (pc := 80) dX10_doesOf_80 rfl rfl ?_
      refine x_ialdn (pc := 81) (a := bi) dX10_doesOf_81 h.1.s15 (by omega) (by omega) ?_
      rw [hc bi hb]
      refine x_put (pc := 82) dX10_doesOf_82 kf_RX10_123 h.1.s rfl (Or.inl kb_10_37) ?_
      have h3 := h2.keep (mdFr.fld (k := 37) (x := nI (ce bi)) (by omega))
      obtain ⟨hM, hn6, hnb, hki, hve, hc, hsto, hhu, hbd, hta, ht, hte, hte2, hlo, hlo2, hln⟩ := id h3
      have fin : ∀ d z, deedN nb ki ve ce sto hu ta te lo (lnO o) bi = (d, z) → P (n, sh, 0, 0) (up2 (up2 I2 M 37 (nI (ce bi))) M 37 (nI z)) R L (some (.int (nI d))) := fun d z e => by
        have h9 := K _ (g1.tr ((mdFr.fld (k := 37) (x := nI (ce bi)) (by omega)).tr (mdFr.fld (k := 37) (x := nI z) (by omega)))) (by rw [e]; exact up2_s)
        rw [e] at h9
        exact h9
      refine x_iload_n (pc := 85) dX10_doesOf_85 rfl rfl ?_
      refine x_if_eq_f (pc := 86) (tgt := 93) dX10_doesOf_86 (by decide) (by decide) ?_
      refine x_iconst (pc := 89) (v := 2) dX10_doesOf_89 (by decide) ?_
      refine x_goto (pc := 90) (tgt := 103) dX10_doesOf_90 (by decide) ?_
      refine x_istore (pc := 103) (lv' := [(0, .ref M), (1, .int (nI bi)), (2, .int (nI (far (ce bi) ta))), (3, .int 1), (4, .int 0), (5, .int (nI (yPk nb ce ta (ce bi) 4))), (6, .int (nI (cPk nb ce true ta ta (ce bi) 4))), (7, .int 2)]) dX10_doesOf_103 (by decide) rfl ?_
      refine x_aload_n (pc := 105) dX10_doesOf_105 rfl rfl ?_
      refine x_getr (pc := 106) dX10_doesOf_106 kf_RX10_104 h.1.s rfl h.1.f16 ?_
      refine x_iload_n (pc := 109) dX10_doesOf_109 rfl rfl ?_
      refine x_ialdn (pc := 110) (a := bi) dX10_doesOf_110 h.1.s16 (by omega) (by omega) ?_
      rw [hki bi hb, hk, show nI 6 = 6 from rfl]
      refine x_tsw (pc := 111) (dt := 320) [(1, 148), (2, 320), (3, 167), (4, 201), (5, 235), (6, 283)] dX10_doesOf_111 (by decide +kernel) (by decide) ?_
      refine xsw_c (fun h => absurd h (by decide)) (fun _ => ?_)
      refine xsw_c (fun h => absurd h (by decide)) (fun _ => ?_)
      refine xsw_c (fun h => absurd h (by decide)) (fun _ => ?_)
      refine xsw_c (fun h => absurd h (by decide)) (fun _ => ?_)
      refine xsw_c (fun h => absurd h (by decide)) (fun _ => ?_)
      refine xsw_c (fun _ => ?_) (fun h => absurd rfl h)
      refine x_iload (pc := 283) dX10_doesOf_283 rfl ?_
      refine x_iconst (pc := 285) (v := 2) dX10_doesOf_285 (by decide) ?_
      refine x_icmp_ne_f (pc := 286) (tgt := 313) dX10_doesOf_286 (by decide) (by decide) ?_
      refine x_iload (pc := 289) dX10_doesOf_289 rfl ?_
      refine x_aload_n (pc := 291) dX10_doesOf_291 rfl rfl ?_
      refine x_get (pc := 292) dX10_doesOf_292 kf_RX10_92 h.1.s rfl ?_
      rw [hta]
      refine x_icmpn_ne (pc := 295) (tgt := 313) (a := (cPk nb ce true ta ta (ce bi) 4)) (b := ta) dX10_doesOf_295 (by decide) (by omega) (by omega) (fun c295 => ?_) (fun c295 => ?_)
      · skip
        refine x_iload (pc := 313) dX10_doesOf_313 rfl ?_
        refine x_istore (pc := 315) (lv' := [(0, .ref M), (1, .int (nI bi)), (2, .int (nI (far (ce bi) ta))), (3, .int 1), (4, .int 0), (5, .int (nI (yPk nb ce ta (ce bi) 4))), (6, .int (nI (cPk nb ce true ta ta (ce bi) 4))), (7, .int 2)]) dX10_doesOf_315 (by decide) rfl ?_
        refine x_goto (pc := 317) (tgt := 320) dX10_doesOf_317 (by decide) ?_
        refine x_aload_n (pc := 320) dX10_doesOf_320 rfl rfl ?_
        refine x_iload (pc := 321) dX10_doesOf_321 rfl ?_
        refine x_iconst (pc := 323) (v := 1) dX10_doesOf_323 (by decide) ?_
        refine x_icmp_ne_t (pc := 324) (tgt := 332) dX10_doesOf_324 (by decide) (by decide) ?_
        refine x_iload (pc := 332) dX10_doesOf_332 rfl ?_
        refine x_iconst (pc := 334) (v := 2) dX10_doesOf_334 (by decide) ?_
        refine x_icmp_ne_f (pc := 335) (tgt := 343) dX10_doesOf_335 (by decide) (by decide) ?_
        refine x_iload (pc := 338) dX10_doesOf_338 rfl ?_
        refine x_goto (pc := 340) (tgt := 371) dX10_doesOf_340 (by decide) ?_
        refine x_put (pc := 371) dX10_doesOf_371 kf_RX10_123 h.1.s rfl (Or.inl kb_10_37) ?_
        refine x_aload_n (pc := 374) dX10_doesOf_374 rfl rfl ?_
        refine x_get (pc := 375) dX10_doesOf_375 kf_RX10_123 h.1.s rfl ?_
        rw [up2_s]
        refine x_aload_n (pc := 378) dX10_doesOf_378 rfl rfl ?_
        refine x_getr (pc := 379) dX10_doesOf_379 kf_RX10_101 h.1.s rfl h.1.f15 ?_
        refine x_iload_n (pc := 382) dX10_doesOf_382 rfl rfl ?_
        refine x_ialdn (pc := 383) (a := bi) dX10_doesOf_383 h.1.s15 (by omega) (by omega) ?_
        rw [up2_a (show M + 16 ≠ M by omega), hc bi hb]
        refine x_icmpn_ne (pc := 384) (tgt := 391) (a := (cPk nb ce true ta ta (ce bi) 4)) (b := (ce bi)) dX10_doesOf_384 (by decide) (by omega) (by omega) (fun c384 => ?_) (fun c384 => ?_)
        · skip
          refine x_iload (pc := 391) dX10_doesOf_391 rfl ?_
          refine x_ireturn (pc := 393) dX10_doesOf_393 ⟨_, rfl, rfl⟩ ⟨Nat.le_refl _, Nat.le_refl _⟩ ?_
          have hd : deedN nb ki ve ce sto hu ta te lo (lnO o) bi = (2, (cPk nb ce true ta ta (ce bi) 4)) := by
            rw [hdN]
            have hfe := (cPk_feign (nb := nb) (ce := ce) hc36 ht).2 (fun q => c295 q.1)
            simp [deedF, yDeed, dCome, show isOne 6 1 = false from by decide, c25, Nat.not_le.mpr c39, c384, hfe]
          exact fin 2 _ hd
        · skip
          refine x_iconst (pc := 387) (v := 0) dX10_doesOf_387 (by decide) ?_
          refine x_goto (pc := 388) (tgt := 393) dX10_doesOf_388 (by decide) ?_
          refine x_ireturn (pc := 393) dX10_doesOf_393 ⟨_, rfl, rfl⟩ ⟨Nat.le_refl _, Nat.le_refl _⟩ ?_
          have hd : deedN nb ki ve ce sto hu ta te lo (lnO o) bi = (0, (cPk nb ce true ta ta (ce bi) 4)) := by
            rw [hdN]
            have hfe := (cPk_feign (nb := nb) (ce := ce) hc36 ht).2 (fun q => c295 q.1)
            simp [deedF, yDeed, dCome, show isOne 6 1 = false from by decide, c25, Nat.not_le.mpr c39, c384, hfe]
          exact fin 0 _ hd
      · skip
        refine x_iload (pc := 298) dX10_doesOf_298 rfl ?_
        refine x_aload_n (pc := 300) dX10_doesOf_300 rfl rfl ?_
        refine x_getr (pc := 301) dX10_doesOf_301 kf_RX10_101 h.1.s rfl h.1.f15 ?_
        refine x_iload_n (pc := 304) dX10_doesOf_304 rfl rfl ?_
        refine x_ialdn (pc := 305) (a := bi) dX10_doesOf_305 h.1.s15 (by omega) (by omega) ?_
        rw [hc bi hb]
        refine x_icmpn_eq (pc := 306) (tgt := 313) (a := (cPk nb ce true ta ta (ce bi) 4)) (b := (ce bi)) dX10_doesOf_306 (by decide) (by omega) (by omega) (fun c306 => ?_) (fun c306 => ?_)
        · skip
          refine x_iload (pc := 313) dX10_doesOf_313 rfl ?_
          refine x_istore (pc := 315) (lv' := [(0, .ref M), (1, .int (nI bi)), (2, .int (nI (far (ce bi) ta))), (3, .int 1), (4, .int 0), (5, .int (nI (yPk nb ce ta (ce bi) 4))), (6, .int (nI (cPk nb ce true ta ta (ce bi) 4))), (7, .int 2)]) dX10_doesOf_315 (by decide) rfl ?_
          refine x_goto (pc := 317) (tgt := 320) dX10_doesOf_317 (by decide) ?_
          refine x_aload_n (pc := 320) dX10_doesOf_320 rfl rfl ?_
          refine x_iload (pc := 321) dX10_doesOf_321 rfl ?_
          refine x_iconst (pc := 323) (v := 1) dX10_doesOf_323 (by decide) ?_
          refine x_icmp_ne_t (pc := 324) (tgt := 332) dX10_doesOf_324 (by decide) (by decide) ?_
          refine x_iload (pc := 332) dX10_doesOf_332 rfl ?_
          refine x_iconst (pc := 334) (v := 2) dX10_doesOf_334 (by decide) ?_
          refine x_icmp_ne_f (pc := 335) (tgt := 343) dX10_doesOf_335 (by decide) (by decide) ?_
          refine x_iload (pc := 338) dX10_doesOf_338 rfl ?_
          refine x_goto (pc := 340) (tgt := 371) dX10_doesOf_340 (by decide) ?_
          refine x_put (pc := 371) dX10_doesOf_371 kf_RX10_123 h.1.s rfl (Or.inl kb_10_37) ?_
          refine x_aload_n (pc := 374) dX10_doesOf_374 rfl rfl ?_
          refine x_get (pc := 375) dX10_doesOf_375 kf_RX10_123 h.1.s rfl ?_
          rw [up2_s]
          refine x_aload_n (pc := 378) dX10_doesOf_378 rfl rfl ?_
          refine x_getr (pc := 379) dX10_doesOf_379 kf_RX10_101 h.1.s rfl h.1.f15 ?_
          refine x_iload_n (pc := 382) dX10_doesOf_382 rfl rfl ?_
          refine x_ialdn (pc := 383) (a := bi) dX10_doesOf_383 h.1.s15 (by omega) (by omega) ?_
          rw [up2_a (show M + 16 ≠ M by omega), hc bi hb]
          refine x_icmpn_ne (pc := 384) (tgt := 391) (a := (cPk nb ce true ta ta (ce bi) 4)) (b := (ce bi)) dX10_doesOf_384 (by decide) (by omega) (by omega) (fun c384 => ?_) (fun c384 => ?_)
          · skip
            refine x_iload (pc := 391) dX10_doesOf_391 rfl ?_
            refine x_ireturn (pc := 393) dX10_doesOf_393 ⟨_, rfl, rfl⟩ ⟨Nat.le_refl _, Nat.le_refl _⟩ ?_
            have hd : deedN nb ki ve ce sto hu ta te lo (lnO o) bi = (2, (cPk nb ce true ta ta (ce bi) 4)) := by
              rw [hdN]
              have hfe := (cPk_feign (nb := nb) (ce := ce) hc36 ht).2 (fun q => q.2 c306)
              simp [deedF, yDeed, dCome, show isOne 6 1 = false from by decide, c25, Nat.not_le.mpr c39, c384, hfe]
            exact fin 2 _ hd
          · skip
            refine x_iconst (pc := 387) (v := 0) dX10_doesOf_387 (by decide) ?_
            refine x_goto (pc := 388) (tgt := 393) dX10_doesOf_388 (by decide) ?_
            refine x_ireturn (pc := 393) dX10_doesOf_393 ⟨_, rfl, rfl⟩ ⟨Nat.le_refl _, Nat.le_refl _⟩ ?_
            have hd : deedN nb ki ve ce sto hu ta te lo (lnO o) bi = (0, (cPk nb ce true ta ta (ce bi) 4)) := by
              rw [hdN]
              have hfe := (cPk_feign (nb := nb) (ce := ce) hc36 ht).2 (fun q => q.2 c306)
              simp [deedF, yDeed, dCome, show isOne 6 1 = false from by decide, c25, Nat.not_le.mpr c39, c384, hfe]
            exact fin 0 _ hd
        · skip
          refine x_iconst (pc := 309) (v := 0) dX10_doesOf_309 (by decide) ?_
          refine x_goto (pc := 310) (tgt := 315) dX10_doesOf_310 (by decide) ?_
          refine x_istore (pc := 315) (lv' := [(0, .ref M), (1, .int (nI bi)), (2, .int (nI (far (ce bi) ta))), (3, .int 1), (4, .int 0), (5, .int (nI (yPk nb ce ta (ce bi) 4))), (6, .int (nI (cPk nb ce true ta ta (ce bi) 4))), (7, .int 0)]) dX10_doesOf_315 (by decide) rfl ?_
          refine x_goto (pc := 317) (tgt := 320) dX10_doesOf_317 (by decide) ?_
          refine x_aload_n (pc := 320) dX10_doesOf_320 rfl rfl ?_
          refine x_iload (pc := 321) dX10_doesOf_321 rfl ?_
          refine x_iconst (pc := 323) (v := 1) dX10_doesOf_323 (by decide) ?_
          refine x_icmp_ne_t (pc := 324) (tgt := 332) dX10_doesOf_324 (by decide) (by decide) ?_
          refine x_iload (pc := 332) dX10_doesOf_332 rfl ?_
          refine x_iconst (pc := 334) (v := 2) dX10_doesOf_334 (by decide) ?_
          refine x_icmp_ne_t (pc := 335) (tgt := 343) dX10_doesOf_335 (by decide) (by decide) ?_
          refine x_iload (pc := 343) dX10_doesOf_343 rfl ?_
          refine x_iconst (pc := 345) (v := 3) dX10_doesOf_345 (by decide) ?_
          refine x_icmp_ne_t (pc := 346) (tgt := 365) dX10_doesOf_346 (by decide) (by decide) ?_
          refine x_aload_n (pc := 365) dX10_doesOf_365 rfl rfl ?_
          refine x_getr (pc := 366) dX10_doesOf_366 kf_RX10_101 h.1.s rfl h.1.f15 ?_
          refine x_iload_n (pc := 369) dX10_doesOf_369 rfl rfl ?_
          refine x_ialdn (pc := 370) (a := bi) dX10_doesOf_370 h.1.s15 (by omega) (by omega) ?_
          rw [hc bi hb]
          refine x_put (pc := 371) dX10_doesOf_371 kf_RX10_123 h.1.s rfl (Or.inl kb_10_37) ?_
          refine x_aload_n (pc := 374) dX10_doesOf_374 rfl rfl ?_
          refine x_get (pc := 375) dX10_doesOf_375 kf_RX10_123 h.1.s rfl ?_
          rw [up2_s]
          refine x_aload_n (pc := 378) dX10_doesOf_378 rfl rfl ?_
          refine x_getr (pc := 379) dX10_doesOf_379 kf_RX10_101 h.1.s rfl h.1.f15 ?_
          refine x_iload_n (pc := 382) dX10_doesOf_382 rfl rfl ?_
          refine x_ialdn (pc := 383) (a := bi) dX10_doesOf_383 h.1.s15 (by omega) (by omega) ?_
          rw [up2_a (show M + 16 ≠ M by omega), hc bi hb]
          refine x_icmp_ne_f (pc := 384) (tgt := 391) dX10_doesOf_384 (by decide) (rfl) ?_
          refine x_iconst (pc := 387) (v := 0) dX10_doesOf_387 (by decide) ?_
          refine x_goto (pc := 388) (tgt := 393) dX10_doesOf_388 (by decide) ?_
          refine x_ireturn (pc := 393) dX10_doesOf_393 ⟨_, rfl, rfl⟩ ⟨Nat.le_refl _, Nat.le_refl _⟩ ?_
          have hd : deedN nb ki ve ce sto hu ta te lo (lnO o) bi = (0, (ce bi)) := by
            rw [hdN]
            have hfe := (cPk_feign (nb := nb) (ce := ce) hc36 ht).1 ⟨c295, c306⟩
            simp [deedF, yDeed, dCome, show isOne 6 1 = false from by decide, c25, Nat.not_le.mpr c39, hfe]
          exact fin 0 _ hd
    · skip
      refine x_iconst (pc := 42) (v := 1) dX10_doesOf_42 (by decide) ?_
      refine x_goto (pc := 43) (tgt := 47) dX10_doesOf_43 (by decide) ?_
      refine x_istore (pc := 47) (lv' := [(0, .ref M), (1, .int (nI bi)), (2, .int (nI (far (ce bi) ta))), (3, .int 1), (4, .int 1)]) dX10_doesOf_47 (by decide) rfl ?_
      refine x_aload_n (pc := 49) dX10_doesOf_49 rfl rfl ?_
      refine x_iload_n (pc := 50) dX10_doesOf_50 rfl rfl ?_
      refine x_aload_n (pc := 51) dX10_doesOf_51 rfl rfl ?_
      refine x_get (pc := 52) dX10_doesOf_52 kf_RX10_92 h.1.s rfl ?_
      rw [hta]
      refine x_iconst (pc := 55) (v := 0) dX10_doesOf_55 (by decide) ?_
      refine x_iconst (pc := 56) (v := 1) dX10_doesOf_56 (by decide) ?_
      refine x_callV (pc := 57) (As := [.int _, .int _, .int _, .int _]) dX10_doesOf_57 km_X10_nextBy kv_X10_nextBy kl_RX10_334 h.1.s rfl rfl (by decide) ⟨Nat.le_refl _, Nat.le_refl _⟩ rfl (Nat.le_of_ble_eq_true rfl) (Nat.le_of_ble_eq_true rfl) (m_nextBy_y h2 hb ht (⟨rfl, rfl, ?_⟩))
      rw [yPk2]
      refine x_istore (pc := 60) (lv' := [(0, .ref M), (1, .int (nI bi)), (2, .int (nI (far (ce bi) ta))), (3, .int 1), (4, .int 1), (5, .int (nI (yPk nb ce ta (ce bi) 4)))]) dX10_doesOf_60 (by decide) rfl ?_
      refine x_aload_n (pc := 62) dX10_doesOf_62 rfl rfl ?_
      refine x_iload_n (pc := 63) dX10_doesOf_63 rfl rfl ?_
      refine x_aload_n (pc := 64) dX10_doesOf_64 rfl rfl ?_
      refine x_get (pc := 65) dX10_doesOf_65 kf_RX10_92 h.1.s rfl ?_
      rw [hta]
      refine x_iconst (pc := 68) (v := 1) dX10_doesOf_68 (by decide) ?_
      refine x_iconst (pc := 69) (v := 0) dX10_doesOf_69 (by decide) ?_
      refine x_callV (pc := 70) (As := [.int _, .int _, .int _, .int _]) dX10_doesOf_70 km_X10_nextBy kv_X10_nextBy kl_RX10_334 h.1.s rfl rfl (by decide) ⟨Nat.le_refl _, Nat.le_refl _⟩ rfl (Nat.le_of_ble_eq_true rfl) (Nat.le_of_ble_eq_true rfl) (m_nextBy_c h2 hb ht (⟨rfl, rfl, ?_⟩))
      rw [show pick (cOk nb ce true ta) (cBet ta) (ce bi) 4 = cPk nb ce true ta ta (ce bi) 4 from rfl]
      refine x_istore (pc := 73) (lv' := [(0, .ref M), (1, .int (nI bi)), (2, .int (nI (far (ce bi) ta))), (3, .int 1), (4, .int 1), (5, .int (nI (yPk nb ce ta (ce bi) 4))), (6, .int (nI (cPk nb ce true ta ta (ce bi) 4)))]) dX10_doesOf_73 (by decide) rfl ?_
      refine x_aload_n (pc := 75) dX10_doesOf_75 rfl rfl ?_
      refine x_aload_n (pc := 76) dX10_doesOf_76 rfl rfl ?_
      refine x_getr (pc := 77) dX10_doesOf_77 kf_RX10_101 h.1.s rfl h.1.f15 ?_
      refine x_iload_n (pc := 80) dX10_doesOf_80 rfl rfl ?_
      refine x_ialdn (pc := 81) (a := bi) dX10_doesOf_81 h.1.s15 (by omega) (by omega) ?_
      rw [hc bi hb]
      refine x_put (pc := 82) dX10_doesOf_82 kf_RX10_123 h.1.s rfl (Or.inl kb_10_37) ?_
      have h3 := h2.keep (mdFr.fld (k := 37) (x := nI (ce bi)) (by omega))
      obtain ⟨hM, hn6, hnb, hki, hve, hc, hsto, hhu, hbd, hta, ht, hte, hte2, hlo, hlo2, hln⟩ := id h3
      have fin : ∀ d z, deedN nb ki ve ce sto hu ta te lo (lnO o) bi = (d, z) → P (n, sh, 0, 0) (up2 (up2 I2 M 37 (nI (ce bi))) M 37 (nI z)) R L (some (.int (nI d))) := fun d z e => by
        have h9 := K _ (g1.tr ((mdFr.fld (k := 37) (x := nI (ce bi)) (by omega)).tr (mdFr.fld (k := 37) (x := nI z) (by omega)))) (by rw [e]; exact up2_s)
        rw [e] at h9
        exact h9
      refine x_iload_n (pc := 85) dX10_doesOf_85 rfl rfl ?_
      refine x_if_eq_f (pc := 86) (tgt := 93) dX10_doesOf_86 (by decide) (by decide) ?_
      refine x_iconst (pc := 89) (v := 2) dX10_doesOf_89 (by decide) ?_
      refine x_goto (pc := 90) (tgt := 103) dX10_doesOf_90 (by decide) ?_
      refine x_istore (pc := 103) (lv' := [(0, .ref M), (1, .int (nI bi)), (2, .int (nI (far (ce bi) ta))), (3, .int 1), (4, .int 1), (5, .int (nI (yPk nb ce ta (ce bi) 4))), (6, .int (nI (cPk nb ce true ta ta (ce bi) 4))), (7, .int 2)]) dX10_doesOf_103 (by decide) rfl ?_
      refine x_aload_n (pc := 105) dX10_doesOf_105 rfl rfl ?_
      refine x_getr (pc := 106) dX10_doesOf_106 kf_RX10_104 h.1.s rfl h.1.f16 ?_
      refine x_iload_n (pc := 109) dX10_doesOf_109 rfl rfl ?_
      refine x_ialdn (pc := 110) (a := bi) dX10_doesOf_110 h.1.s16 (by omega) (by omega) ?_
      rw [hki bi hb, hk, show nI 6 = 6 from rfl]
      refine x_tsw (pc := 111) (dt := 320) [(1, 148), (2, 320), (3, 167), (4, 201), (5, 235), (6, 283)] dX10_doesOf_111 (by decide +kernel) (by decide) ?_
      refine xsw_c (fun h => absurd h (by decide)) (fun _ => ?_)
      refine xsw_c (fun h => absurd h (by decide)) (fun _ => ?_)
      refine xsw_c (fun h => absurd h (by decide)) (fun _ => ?_)
      refine xsw_c (fun h => absurd h (by decide)) (fun _ => ?_)
      refine xsw_c (fun h => absurd h (by decide)) (fun _ => ?_)
      refine xsw_c (fun _ => ?_) (fun h => absurd rfl h)
      refine x_iload (pc := 283) dX10_doesOf_283 rfl ?_
      refine x_iconst (pc := 285) (v := 2) dX10_doesOf_285 (by decide) ?_
      refine x_icmp_ne_f (pc := 286) (tgt := 313) dX10_doesOf_286 (by decide) (by decide) ?_
      refine x_iload (pc := 289) dX10_doesOf_289 rfl ?_
      refine x_aload_n (pc := 291) dX10_doesOf_291 rfl rfl ?_
      refine x_get (pc := 292) dX10_doesOf_292 kf_RX10_92 h.1.s rfl ?_
      rw [hta]
      refine x_icmpn_ne (pc := 295) (tgt := 313) (a := (cPk nb ce true ta ta (ce bi) 4)) (b := ta) dX10_doesOf_295 (by decide) (by omega) (by omega) (fun c295 => ?_) (fun c295 => ?_)
      · skip
        refine x_iload (pc := 313) dX10_doesOf_313 rfl ?_
        refine x_istore (pc := 315) (lv' := [(0, .ref M), (1, .int (nI bi)), (2, .int (nI (far (ce bi) ta))), (3, .int 1), (4, .int 1), (5, .int (nI (yPk nb ce ta (ce bi) 4))), (6, .int (nI (cPk nb ce true ta ta (ce bi) 4))), (7, .int 2)]) dX10_doesOf_315 (by decide) rfl ?_
        refine x_goto (pc := 317) (tgt := 320) dX10_doesOf_317 (by decide) ?_
        refine x_aload_n (pc := 320) dX10_doesOf_320 rfl rfl ?_
        refine x_iload (pc := 321) dX10_doesOf_321 rfl ?_
        refine x_iconst (pc := 323) (v := 1) dX10_doesOf_323 (by decide) ?_
        refine x_icmp_ne_t (pc := 324) (tgt := 332) dX10_doesOf_324 (by decide) (by decide) ?_
        refine x_iload (pc := 332) dX10_doesOf_332 rfl ?_
        refine x_iconst (pc := 334) (v := 2) dX10_doesOf_334 (by decide) ?_
        refine x_icmp_ne_f (pc := 335) (tgt := 343) dX10_doesOf_335 (by decide) (by decide) ?_
        refine x_iload (pc := 338) dX10_doesOf_338 rfl ?_
        refine x_goto (pc := 340) (tgt := 371) dX10_doesOf_340 (by decide) ?_
        refine x_put (pc := 371) dX10_doesOf_371 kf_RX10_123 h.1.s rfl (Or.inl kb_10_37) ?_
        refine x_aload_n (pc := 374) dX10_doesOf_374 rfl rfl ?_
        refine x_get (pc := 375) dX10_doesOf_375 kf_RX10_123 h.1.s rfl ?_
        rw [up2_s]
        refine x_aload_n (pc := 378) dX10_doesOf_378 rfl rfl ?_
        refine x_getr (pc := 379) dX10_doesOf_379 kf_RX10_101 h.1.s rfl h.1.f15 ?_
        refine x_iload_n (pc := 382) dX10_doesOf_382 rfl rfl ?_
        refine x_ialdn (pc := 383) (a := bi) dX10_doesOf_383 h.1.s15 (by omega) (by omega) ?_
        rw [up2_a (show M + 16 ≠ M by omega), hc bi hb]
        refine x_icmpn_ne (pc := 384) (tgt := 391) (a := (cPk nb ce true ta ta (ce bi) 4)) (b := (ce bi)) dX10_doesOf_384 (by decide) (by omega) (by omega) (fun c384 => ?_) (fun c384 => ?_)
        · skip
          refine x_iload (pc := 391) dX10_doesOf_391 rfl ?_
          refine x_ireturn (pc := 393) dX10_doesOf_393 ⟨_, rfl, rfl⟩ ⟨Nat.le_refl _, Nat.le_refl _⟩ ?_
          have hd : deedN nb ki ve ce sto hu ta te lo (lnO o) bi = (2, (cPk nb ce true ta ta (ce bi) 4)) := by
            rw [hdN]
            have hfe := (cPk_feign (nb := nb) (ce := ce) hc36 ht).2 (fun q => c295 q.1)
            simp [deedF, yDeed, dCome, show isOne 6 1 = false from by decide, c25, c39, c384, hfe]
          exact fin 2 _ hd
        · skip
          refine x_iconst (pc := 387) (v := 0) dX10_doesOf_387 (by decide) ?_
          refine x_goto (pc := 388) (tgt := 393) dX10_doesOf_388 (by decide) ?_
          refine x_ireturn (pc := 393) dX10_doesOf_393 ⟨_, rfl, rfl⟩ ⟨Nat.le_refl _, Nat.le_refl _⟩ ?_
          have hd : deedN nb ki ve ce sto hu ta te lo (lnO o) bi = (0, (cPk nb ce true ta ta (ce bi) 4)) := by
            rw [hdN]
            have hfe := (cPk_feign (nb := nb) (ce := ce) hc36 ht).2 (fun q => c295 q.1)
            simp [deedF, yDeed, dCome, show isOne 6 1 = false from by decide, c25, c39, c384, hfe]
          exact fin 0 _ hd
      · skip
        refine x_iload (pc := 298) dX10_doesOf_298 rfl ?_
        refine x_aload_n (pc := 300) dX10_doesOf_300 rfl rfl ?_
        refine x_getr (pc := 301) dX10_doesOf_301 kf_RX10_101 h.1.s rfl h.1.f15 ?_
        refine x_iload_n (pc := 304) dX10_doesOf_304 rfl rfl ?_
        refine x_ialdn (pc := 305) (a := bi) dX10_doesOf_305 h.1.s15 (by omega) (by omega) ?_
        rw [hc bi hb]
        refine x_icmpn_eq (pc := 306) (tgt := 313) (a := (cPk nb ce true ta ta (ce bi) 4)) (b := (ce bi)) dX10_doesOf_306 (by decide) (by omega) (by omega) (fun c306 => ?_) (fun c306 => ?_)
        · skip
          refine x_iload (pc := 313) dX10_doesOf_313 rfl ?_
          refine x_istore (pc := 315) (lv' := [(0, .ref M), (1, .int (nI bi)), (2, .int (nI (far (ce bi) ta))), (3, .int 1), (4, .int 1), (5, .int (nI (yPk nb ce ta (ce bi) 4))), (6, .int (nI (cPk nb ce true ta ta (ce bi) 4))), (7, .int 2)]) dX10_doesOf_315 (by decide) rfl ?_
          refine x_goto (pc := 317) (tgt := 320) dX10_doesOf_317 (by decide) ?_
          refine x_aload_n (pc := 320) dX10_doesOf_320 rfl rfl ?_
          refine x_iload (pc := 321) dX10_doesOf_321 rfl ?_
          refine x_iconst (pc := 323) (v := 1) dX10_doesOf_323 (by decide) ?_
          refine x_icmp_ne_t (pc := 324) (tgt := 332) dX10_doesOf_324 (by decide) (by decide) ?_
          refine x_iload (pc := 332) dX10_doesOf_332 rfl ?_
          refine x_iconst (pc := 334) (v := 2) dX10_doesOf_334 (by decide) ?_
          refine x_icmp_ne_f (pc := 335) (tgt := 343) dX10_doesOf_335 (by decide) (by decide) ?_
          refine x_iload (pc := 338) dX10_doesOf_338 rfl ?_
          refine x_goto (pc := 340) (tgt := 371) dX10_doesOf_340 (by decide) ?_
          refine x_put (pc := 371) dX10_doesOf_371 kf_RX10_123 h.1.s rfl (Or.inl kb_10_37) ?_
          refine x_aload_n (pc := 374) dX10_doesOf_374 rfl rfl ?_
          refine x_get (pc := 375) dX10_doesOf_375 kf_RX10_123 h.1.s rfl ?_
          rw [up2_s]
          refine x_aload_n (pc := 378) dX10_doesOf_378 rfl rfl ?_
          refine x_getr (pc := 379) dX10_doesOf_379 kf_RX10_101 h.1.s rfl h.1.f15 ?_
          refine x_iload_n (pc := 382) dX10_doesOf_382 rfl rfl ?_
          refine x_ialdn (pc := 383) (a := bi) dX10_doesOf_383 h.1.s15 (by omega) (by omega) ?_
          rw [up2_a (show M + 16 ≠ M by omega), hc bi hb]
          refine x_icmpn_ne (pc := 384) (tgt := 391) (a := (cPk nb ce true ta ta (ce bi) 4)) (b := (ce bi)) dX10_doesOf_384 (by decide) (by omega) (by omega) (fun c384 => ?_) (fun c384 => ?_)
          · skip
            refine x_iload (pc := 391) dX10_doesOf_391 rfl ?_
            refine x_ireturn (pc := 393) dX10_doesOf_393 ⟨_, rfl, rfl⟩ ⟨Nat.le_refl _, Nat.le_refl _⟩ ?_
            have hd : deedN nb ki ve ce sto hu ta te lo (lnO o) bi = (2, (cPk nb ce true ta ta (ce bi) 4)) := by
              rw [hdN]
              have hfe := (cPk_feign (nb := nb) (ce := ce) hc36 ht).2 (fun q => q.2 c306)
              simp [deedF, yDeed, dCome, show isOne 6 1 = false from by decide, c25, c39, c384, hfe]
            exact fin 2 _ hd
          · skip
            refine x_iconst (pc := 387) (v := 0) dX10_doesOf_387 (by decide) ?_
            refine x_goto (pc := 388) (tgt := 393) dX10_doesOf_388 (by decide) ?_
            refine x_ireturn (pc := 393) dX10_doesOf_393 ⟨_, rfl, rfl⟩ ⟨Nat.le_refl _, Nat.le_refl _⟩ ?_
            have hd : deedN nb ki ve ce sto hu ta te lo (lnO o) bi = (0, (cPk nb ce true ta ta (ce bi) 4)) := by
              rw [hdN]
              have hfe := (cPk_feign (nb := nb) (ce := ce) hc36 ht).2 (fun q => q.2 c306)
              simp [deedF, yDeed, dCome, show isOne 6 1 = false from by decide, c25, c39, c384, hfe]
            exact fin 0 _ hd
        · skip
          refine x_iconst (pc := 309) (v := 0) dX10_doesOf_309 (by decide) ?_
          refine x_goto (pc := 310) (tgt := 315) dX10_doesOf_310 (by decide) ?_
          refine x_istore (pc := 315) (lv' := [(0, .ref M), (1, .int (nI bi)), (2, .int (nI (far (ce bi) ta))), (3, .int 1), (4, .int 1), (5, .int (nI (yPk nb ce ta (ce bi) 4))), (6, .int (nI (cPk nb ce true ta ta (ce bi) 4))), (7, .int 0)]) dX10_doesOf_315 (by decide) rfl ?_
          refine x_goto (pc := 317) (tgt := 320) dX10_doesOf_317 (by decide) ?_
          refine x_aload_n (pc := 320) dX10_doesOf_320 rfl rfl ?_
          refine x_iload (pc := 321) dX10_doesOf_321 rfl ?_
          refine x_iconst (pc := 323) (v := 1) dX10_doesOf_323 (by decide) ?_
          refine x_icmp_ne_t (pc := 324) (tgt := 332) dX10_doesOf_324 (by decide) (by decide) ?_
          refine x_iload (pc := 332) dX10_doesOf_332 rfl ?_
          refine x_iconst (pc := 334) (v := 2) dX10_doesOf_334 (by decide) ?_
          refine x_icmp_ne_t (pc := 335) (tgt := 343) dX10_doesOf_335 (by decide) (by decide) ?_
          refine x_iload (pc := 343) dX10_doesOf_343 rfl ?_
          refine x_iconst (pc := 345) (v := 3) dX10_doesOf_345 (by decide) ?_
          refine x_icmp_ne_t (pc := 346) (tgt := 365) dX10_doesOf_346 (by decide) (by decide) ?_
          refine x_aload_n (pc := 365) dX10_doesOf_365 rfl rfl ?_
          refine x_getr (pc := 366) dX10_doesOf_366 kf_RX10_101 h.1.s rfl h.1.f15 ?_
          refine x_iload_n (pc := 369) dX10_doesOf_369 rfl rfl ?_
          refine x_ialdn (pc := 370) (a := bi) dX10_doesOf_370 h.1.s15 (by omega) (by omega) ?_
          rw [hc bi hb]
          refine x_put (pc := 371) dX10_doesOf_371 kf_RX10_123 h.1.s rfl (Or.inl kb_10_37) ?_
          refine x_aload_n (pc := 374) dX10_doesOf_374 rfl rfl ?_
          refine x_get (pc := 375) dX10_doesOf_375 kf_RX10_123 h.1.s rfl ?_
          rw [up2_s]
          refine x_aload_n (pc := 378) dX10_doesOf_378 rfl rfl ?_
          refine x_getr (pc := 379) dX10_doesOf_379 kf_RX10_101 h.1.s rfl h.1.f15 ?_
          refine x_iload_n (pc := 382) dX10_doesOf_382 rfl rfl ?_
          refine x_ialdn (pc := 383) (a := bi) dX10_doesOf_383 h.1.s15 (by omega) (by omega) ?_
          rw [up2_a (show M + 16 ≠ M by omega), hc bi hb]
          refine x_icmp_ne_f (pc := 384) (tgt := 391) dX10_doesOf_384 (by decide) (rfl) ?_
          refine x_iconst (pc := 387) (v := 0) dX10_doesOf_387 (by decide) ?_
          refine x_goto (pc := 388) (tgt := 393) dX10_doesOf_388 (by decide) ?_
          refine x_ireturn (pc := 393) dX10_doesOf_393 ⟨_, rfl, rfl⟩ ⟨Nat.le_refl _, Nat.le_refl _⟩ ?_
          have hd : deedN nb ki ve ce sto hu ta te lo (lnO o) bi = (0, (ce bi)) := by
            rw [hdN]
            have hfe := (cPk_feign (nb := nb) (ce := ce) hc36 ht).1 ⟨c295, c306⟩
            simp [deedF, yDeed, dCome, show isOne 6 1 = false from by decide, c25, c39, hfe]
          exact fin 0 _ hd

theorem m_doesOf {T : xT} {n : Nat} {sh : Nat → Nat × Nat} {I : xI} {R : xR} {L : xL} {P : xPost} {M nb ta te lo : Nat} {ki ve ce sto hu : Nat → Nat} {o : Option xAR} {bi : Nat} (h : MS sh R I M nb ki ve ce sto hu ta te lo o) (hb : bi < nb) (K : ∀ I2 : xI, mdFr M I I2 → I2 M 37 = nI (deedN nb ki ve ce sto hu ta te lo (lnO o) bi).2 → P (n, sh, 0, 0) I2 R L (some (.int (nI (deedN nb ki ve ce sto hu ta te lo (lnO o) bi).1)))) : XM T zX10_doesOf 4 [.ref M, .int (nI bi)] n sh I R L P := by
  have h7 := (h.2.2.2.2.2.2.2.2.1 bi hb).1
  have : ki bi = 0 ∨ ki bi = 1 ∨ ki bi = 2 ∨ ki bi = 3 ∨ ki bi = 4 ∨ ki bi = 5 ∨ ki bi = 6 := by omega
  rcases this with hk | hk | hk | hk | hk | hk | hk
  · exact m_doesOf_0 h hb hk K
  · exact m_doesOf_1 h hb hk K
  · exact m_doesOf_2 h hb hk K
  · exact m_doesOf_3 h hb hk K
  · exact m_doesOf_4 h hb hk K
  · exact m_doesOf_5 h hb hk K
  · exact m_doesOf_6 h hb hk K
