/-! ===== kinds: the reference ===== -/
theorem MS.setKind {sh : Nat → Nat × Nat} {R : xR} {I : xI} {M nb ta te lo : Nat} {ki ve ce sto hu : Nat → Nat} {o : Option xAR} {i x : Nat} (h : MS sh R I M nb ki ve ce sto hu ta te lo o) (hx : x < 7) : MS sh R (up2 I (M + 17) i (nI x)) M nb (fun j => if j = i then x else ki j) ve ce sto hu ta te lo o := by
  obtain ⟨a1, a2, a3, a4, a5, a6, a7, a8, a9, a10, a11, a12, a13, a14, a15, a16⟩ := h
  have k : ∀ j, j ≠ 17 → up2 I (M + 17) i (nI x) (M + j) = I (M + j) := fun j p => up2_row (by omega)
  have k0 : up2 I (M + 17) i (nI x) M = I M := up2_row (by omega)
  refine ⟨a1, a2, by rw [k0]; exact a3, fun j hj => ?_, fun j hj => by rw [k 2 (by omega)]; exact a5 j hj, fun j hj => by rw [k 16 (by omega)]; exact a6 j hj, fun j hj => by rw [k 4 (by omega)]; exact a7 j hj, fun j hj => by rw [k 5 (by omega)]; exact a8 j hj, fun j hj => ?_, by rw [k0]; exact a10, a11, by rw [k0]; exact a12, a13, by rw [k0]; exact a14, a15, a16.keep (by rw [k0]) (fun j p1 p2 => k j (by omega))⟩
  · show up2 I (M + 17) i (nI x) (M + 17) j = nI (if j = i then x else ki j)
    by_cases q : j = i
    · rw [q, up2_s, if_pos rfl]
    · rw [up2_k q, if_neg q]
      exact a4 j hj
  · obtain ⟨b1, b2, b3, b4, b5⟩ := a9 j hj
    refine ⟨?_, b2, b3, b4, b5⟩
    show (if j = i then x else ki j) < 7
    split
    · exact hx
    · exact b1

set_option maxHeartbeats 4000000 in
set_option maxRecDepth 100000 in
theorem lm_film0 {T : xT} {n : Nat} {sh : Nat → Nat × Nat} {I : xI} {R : xR} {L : xL} {P : xPost} {M b q i m : Nat} {s : Int32} (hM : xModel sh R M) (hi : i ≤ 10) (hm : m ≤ 10) (hq : q < 7) (hn : I M 46 = nI m) (K : X T zX10_kinds 7 0 0 P 84 [(0, .ref M), (1, .int (nI b)), (2, .int s), (3, .int (nI q)), (4, .int 0)] [] (n, sh, 0, 0) I R L)  :  X T zX10_kinds 7 0 0 P 37 [(0, .ref M), (1, .int (nI b)), (2, .int s), (3, .int (nI q)), (4, .int 0), (5, .int (nI i))] [] (n, sh, 0, 0) (I) R L := by
  refine x_iload (pc := 37) dX10_kinds_37 rfl ?_
  refine x_aload_n (pc := 39) dX10_kinds_39 rfl rfl ?_
  refine x_get (pc := 40) dX10_kinds_40 kf_RX10_150 hM.s rfl ?_
  rw [hn]
  refine x_icmpn_ge (pc := 43) (tgt := 84) (a := i) (b := m) dX10_kinds_43 (by decide) (by omega) (by omega) (fun c43 => ?_) (fun c43 => ?_)
  · skip
    exact X.keep [0, 1, 2, 3, 4] rfl K
  · skip
    refine x_iload (pc := 46) dX10_kinds_46 rfl ?_
    refine x_if_eq_t (pc := 48) (tgt := 84) dX10_kinds_48 (by decide) (by decide) ?_
    exact X.keep [0, 1, 2, 3, 4] rfl K

set_option maxHeartbeats 4000000 in
set_option maxRecDepth 100000 in
theorem lm_film {T : xT} {n : Nat} {sh : Nat → Nat × Nat} {I : xI} {R : xR} {L : xL} {P : xPost} {M q : Nat} (hM : xModel sh R M) {W : xV} {o : Option xAR} {m b : Nat} {f : Nat → Nat} {s : Int32} (hq : q < 7) (v6 : W 8 0 ≤ 6) (hte : W 8 2 + 20 < 1000000) (hm : m ≤ 10) (hfl : ∀ i, i < m → f i < 36) (hb : b < W 8 0) (hn : I M 46 = nI m) (hf : ∀ i, i < m → I (M + 26) i = nI (f i)) (K1 : ∀ J : xI, (∀ k, k < m → goF W o (W 8 1) (k + 1) b = f k) → mdT M I J → X T zX10_kinds 7 0 0 P 84 [(0, .ref M), (1, .int (nI b)), (2, .int s), (3, .int (nI q)), (4, .int 1)] [] (n, sh, 0, 0) J R L) (K2 : ∀ J : xI, (∃ k, k < m ∧ ¬ goF W o (W 8 1) (k + 1) b = f k) → mdT M I J → X T zX10_kinds 7 0 0 P 84 [(0, .ref M), (1, .int (nI b)), (2, .int s), (3, .int (nI q)), (4, .int 0)] [] (n, sh, 0, 0) J R L)  : ∀ (w i : Nat), i + w = m → ∀ (J : xI), MS sh R J M (W 8 0) (W 0) (W 1) (goF W o (W 8 1) i) (W 3) (W 4) (W 8 1) (W 8 2 + i) 0 o → mdT M I J → (∀ k, k < i → goF W o (W 8 1) (k + 1) b = f k) → X T zX10_kinds 7 0 0 P 37 [(0, .ref M), (1, .int (nI b)), (2, .int s), (3, .int (nI q)), (4, .int 1), (5, .int (nI i))] [] (n, sh, 0, 0) (J) R L := by
  intro w
  induction w with
  | zero =>
    intro i hw J hj fj hy
    have hz : i = m := by omega
    have hnj : J M 46 = nI m := (fj.2 46 (by decide)).trans hn
    refine x_iload (pc := 37) dX10_kinds_37 rfl ?_
    refine x_aload_n (pc := 39) dX10_kinds_39 rfl rfl ?_
    refine x_get (pc := 40) dX10_kinds_40 kf_RX10_150 hM.s rfl ?_
    rw [hnj]
    refine x_icmpn_ge_t (pc := 43) (tgt := 84) (a := i) (b := m) dX10_kinds_43 (by decide) (by omega) (by omega) (by omega) ?_
    exact X.keep [0, 1, 2, 3, 4] rfl (K1 J (fun k hk => hy k (by omega)) fj)
  | succ w ih =>
    intro i hw J hj fj hy
    have hi : i < m := by omega
    have hnj : J M 46 = nI m := (fj.2 46 (by decide)).trans hn
    refine x_iload (pc := 37) dX10_kinds_37 rfl ?_
    refine x_aload_n (pc := 39) dX10_kinds_39 rfl rfl ?_
    refine x_get (pc := 40) dX10_kinds_40 kf_RX10_150 hM.s rfl ?_
    rw [hnj]
    refine x_icmpn_ge_f (pc := 43) (tgt := 84) (a := i) (b := m) dX10_kinds_43 (by decide) (by omega) (by omega) (by omega) ?_
    refine x_iload (pc := 46) dX10_kinds_46 rfl ?_
    refine x_if_eq_f (pc := 48) (tgt := 84) dX10_kinds_48 (by decide) (by decide) ?_
    refine x_aload_n (pc := 51) dX10_kinds_51 rfl rfl ?_
    refine x_callV (pc := 52) (As := []) dX10_kinds_52 km_X10_goTenth kv_X10_goTenth kl_RX10_344 hM.s rfl rfl (by decide) ⟨Nat.le_refl _, Nat.le_refl _⟩ rfl (Nat.le_of_ble_eq_true rfl) (Nat.le_of_ble_eq_true rfl) (m_goTenth hj (by omega) (fun I2 h3 f2 => ⟨rfl, rfl, ?_⟩))
    have h3 := (show MS sh R I2 M (W 8 0) (W 0) (W 1) (goF W o (W 8 1) (i + 1)) (W 3) (W 4) (W 8 1) (W 8 2 + (i + 1)) 0 o from h3)
    have ff : mdT M I I2 := fj.tr (mdT.of2 f2)
    have g1 := hfl i hi
    have g2 := (h3.2.2.2.2.2.2.2.2.1 b hb).2.2.1
    have g3 : I2 (M + 26) i = nI (f i) := by rw [ff.1 _ (by omega) (by omega) (by omega) (by omega)]; exact hf i hi
    refine x_aload_n (pc := 55) dX10_kinds_55 rfl rfl ?_
    refine x_getr (pc := 56) dX10_kinds_56 kf_RX10_101 hM.s rfl hM.f15 ?_
    refine x_iload_n (pc := 59) dX10_kinds_59 rfl rfl ?_
    refine x_ialdn (pc := 60) (a := b) dX10_kinds_60 hM.s15 (by omega) (by omega) ?_
    rw [h3.2.2.2.2.2.1 b hb]
    refine x_aload_n (pc := 61) dX10_kinds_61 rfl rfl ?_
    refine x_getr (pc := 62) dX10_kinds_62 kf_RX10_153 hM.s rfl hM.f25 ?_
    refine x_iload (pc := 65) dX10_kinds_65 rfl ?_
    refine x_ialdn (pc := 67) (a := i) dX10_kinds_67 hM.s25 (by omega) (by omega) ?_
    rw [g3]
    refine x_icmpn_ne (pc := 68) (tgt := 75) (a := (goF W o (W 8 1) (i + 1) b)) (b := (f i)) dX10_kinds_68 (by decide) (by omega) (by omega) (fun c68 => ?_) (fun c68 => ?_)
    · skip
      refine x_iconst (pc := 75) (v := 0) dX10_kinds_75 (by decide) ?_
      refine x_istore (pc := 76) (lv' := [(0, .ref M), (1, .int (nI b)), (2, .int s), (3, .int (nI q)), (4, .int 0), (5, .int (nI i))]) dX10_kinds_76 (by decide) rfl ?_
      refine x_iinc (pc := 78) (v := nI (i + 1)) (lv' := [(0, .ref M), (1, .int (nI b)), (2, .int s), (3, .int (nI q)), (4, .int 0), (5, .int (nI (i + 1)))]) dX10_kinds_78 rfl (nI_1 _) (by decide) rfl ?_
      refine x_goto (pc := 81) (tgt := 37) dX10_kinds_81 (by decide) ?_
      exact lm_film0 hM (by omega) hm hq ((ff.2 46 (by decide)).trans hn) (K2 I2 ⟨i, hi, c68⟩ ff)
    · skip
      refine x_iconst (pc := 71) (v := 1) dX10_kinds_71 (by decide) ?_
      refine x_goto (pc := 72) (tgt := 76) dX10_kinds_72 (by decide) ?_
      refine x_istore (pc := 76) (lv' := [(0, .ref M), (1, .int (nI b)), (2, .int s), (3, .int (nI q)), (4, .int 1), (5, .int (nI i))]) dX10_kinds_76 (by decide) rfl ?_
      refine x_iinc (pc := 78) (v := nI (i + 1)) (lv' := [(0, .ref M), (1, .int (nI b)), (2, .int s), (3, .int (nI q)), (4, .int 1), (5, .int (nI (i + 1)))]) dX10_kinds_78 rfl (nI_1 _) (by decide) rfl ?_
      refine x_goto (pc := 81) (tgt := 37) dX10_kinds_81 (by decide) ?_
      exact ih (i + 1) (by omega) I2 h3 ff (fun k hk9 => (Nat.lt_succ_iff_lt_or_eq.mp hk9).elim (hy k) (fun e9 => by subst e9; first | exact c68 | exact Decidable.not_not.mp c68))

set_option maxHeartbeats 4000000 in
set_option maxRecDepth 100000 in
theorem lm_kindsY {T : xT} {n : Nat} {sh : Nat → Nat × Nat} {I : xI} {R : xR} {L : xL} {P : xPost} {M b q : Nat} (hq : q < 7) {s : Int32} (K : X T zX10_kinds 7 0 0 P 14 [(0, .ref M), (1, .int (nI b)), (2, .int (s ||| ((1 : Int32) <<< (nI q &&& 31)))), (3, .int (nI (q + 1)))] [] (n, sh, 0, 0) I R L)  :  X T zX10_kinds 7 0 0 P 84 [(0, .ref M), (1, .int (nI b)), (2, .int s), (3, .int (nI q)), (4, .int 1)] [] (n, sh, 0, 0) (I) R L := by
  refine x_iload_n (pc := 84) dX10_kinds_84 rfl rfl ?_
  refine x_iload (pc := 85) dX10_kinds_85 rfl ?_
  refine x_if_eq_f (pc := 87) (tgt := 96) dX10_kinds_87 (by decide) (by decide) ?_
  refine x_iconst (pc := 90) (v := 1) dX10_kinds_90 (by decide) ?_
  refine x_iload_n (pc := 91) dX10_kinds_91 rfl rfl ?_
  refine x_ishl (pc := 92) dX10_kinds_92 ?_
  refine x_goto (pc := 93) (tgt := 97) dX10_kinds_93 (by decide) ?_
  refine x_ior (pc := 97) dX10_kinds_97 ?_
  refine x_topi (fun v98 ev98 => ?_)
  refine x_istore_n (pc := 98) (lv' := [(0, .ref M), (1, .int (nI b)), (2, .int v98), (3, .int (nI q)), (4, .int 1)]) dX10_kinds_98 rfl (by decide) rfl ?_
  refine x_iinc (pc := 99) (v := nI (q + 1)) (lv' := [(0, .ref M), (1, .int (nI b)), (2, .int v98), (3, .int (nI (q + 1))), (4, .int 1)]) dX10_kinds_99 rfl (nI_1 _) (by decide) rfl ?_
  refine x_goto (pc := 102) (tgt := 14) dX10_kinds_102 (by decide) ?_
  subst ev98
  exact X.keep [0, 1, 2, 3] rfl K

set_option maxHeartbeats 4000000 in
set_option maxRecDepth 100000 in
theorem lm_kindsN {T : xT} {n : Nat} {sh : Nat → Nat × Nat} {I : xI} {R : xR} {L : xL} {P : xPost} {M b q : Nat} (hq : q < 7) {s : Int32} (K : X T zX10_kinds 7 0 0 P 14 [(0, .ref M), (1, .int (nI b)), (2, .int s), (3, .int (nI (q + 1)))] [] (n, sh, 0, 0) I R L)  :  X T zX10_kinds 7 0 0 P 84 [(0, .ref M), (1, .int (nI b)), (2, .int s), (3, .int (nI q)), (4, .int 0)] [] (n, sh, 0, 0) (I) R L := by
  refine x_iload_n (pc := 84) dX10_kinds_84 rfl rfl ?_
  refine x_iload (pc := 85) dX10_kinds_85 rfl ?_
  refine x_if_eq_t (pc := 87) (tgt := 96) dX10_kinds_87 (by decide) (by decide) ?_
  refine x_iconst (pc := 96) (v := 0) dX10_kinds_96 (by decide) ?_
  refine x_ior (pc := 97) dX10_kinds_97 ?_
  refine x_topi (fun v98 ev98 => ?_)
  refine x_istore_n (pc := 98) (lv' := [(0, .ref M), (1, .int (nI b)), (2, .int v98), (3, .int (nI q)), (4, .int 0)]) dX10_kinds_98 rfl (by decide) rfl ?_
  refine x_iinc (pc := 99) (v := nI (q + 1)) (lv' := [(0, .ref M), (1, .int (nI b)), (2, .int v98), (3, .int (nI (q + 1))), (4, .int 0)]) dX10_kinds_99 rfl (nI_1 _) (by decide) rfl ?_
  refine x_goto (pc := 102) (tgt := 14) dX10_kinds_102 (by decide) ?_
  subst ev98
  rw [Int32.or_zero]
  exact X.keep [0, 1, 2, 3] rfl K

set_option maxHeartbeats 4000000 in
set_option maxRecDepth 100000 in
theorem lm_kinds {T : xT} {n : Nat} {sh : Nat → Nat × Nat} {I : xI} {R : xR} {L : xL} {P : xPost} {M : Nat} (hM : xModel sh R M) {V : xV} {B rc : Nat} {ars : Nat → xAR} (hv : VOK V B) (hB : B < 800000) (h : MDV I M V) (hr : mRings I M rc ars) (hV6 : V 8 6 ≤ rc) {b : Nat} (hb : b < V 8 0) (K : ∀ I2 : xI, MDV I2 M V → mdP M I I2 → P (n, sh, 0, 0) I2 R L (some (.int (spKinds V (rgVal ars V) (nI b)))))  : ∀ (w i : Nat), i + w = 7 → ∀ (J : xI), mdT M I J → X T zX10_kinds 7 0 0 P 14 [(0, .ref M), (1, .int (nI b)), (2, .int (kdM (kindP V (rgVal ars V) b) i)), (3, .int (nI i))] [] (n, sh, 0, 0) (J) R L := by
  obtain ⟨v6, v12, v10, vb, vf, vw, vm, vta, vte, vod, vrg, vdi⟩ := id hv
  intro w
  induction w with
  | zero =>
    intro i hw J fj
    have hz : i = 7 := by omega
    refine x_iload_n (pc := 14) dX10_kinds_14 rfl rfl ?_
    refine x_bipush (pc := 15) (v := 7) dX10_kinds_15 (by decide) ?_
    refine x_icmpn_ge_t (pc := 17) (tgt := 105) (a := i) (b := 7) dX10_kinds_17 (by decide) (by omega) (by decide) (by omega) ?_
    refine x_iload_n (pc := 105) dX10_kinds_105 rfl rfl ?_
    refine x_ireturn (pc := 106) dX10_kinds_106 ⟨_, rfl, rfl⟩ ⟨Nat.le_refl _, Nat.le_refl _⟩ ?_
    have h9 := K J (h.keepT fj) fj.mdP
    rw [spKinds_s hb v6] at h9
    rw [hz]
    exact h9
  | succ w ih =>
    intro i hw J fj
    have hi : i < 7 := by omega
    refine x_iload_n (pc := 14) dX10_kinds_14 rfl rfl ?_
    refine x_bipush (pc := 15) (v := 7) dX10_kinds_15 (by decide) ?_
    refine x_icmpn_ge_f (pc := 17) (tgt := 105) (a := i) (b := 7) dX10_kinds_17 (by decide) (by omega) (by decide) (by omega) ?_
    refine x_aload_n (pc := 20) dX10_kinds_20 rfl rfl ?_
    refine x_callV (pc := 21) (As := []) dX10_kinds_21 km_X10_asIs kv_X10_asIs kl_RX10_338 hM.s rfl rfl (by decide) ⟨Nat.le_refl _, Nat.le_refl _⟩ rfl (Nat.le_of_ble_eq_true rfl) (Nat.le_of_ble_eq_true rfl) (m_asIs hM (fun I2 k1 k2 k3 k4 k5 k6 k7 => ⟨rfl, rfl, ?_⟩))
    have hms := (h.keepT fj).toMS hM hv hB (hr.keep fj.mdP) hV6 k1 k2 k3 k4 k5 k6 k7
    have f2 : mdT M I I2 := fj.tr (mdT.asIs k1 k2)
    refine x_aload_n (pc := 24) dX10_kinds_24 rfl rfl ?_
    refine x_getr (pc := 25) dX10_kinds_25 kf_RX10_104 hM.s rfl hM.f16 ?_
    refine x_iload_n (pc := 28) dX10_kinds_28 rfl rfl ?_
    refine x_iload_n (pc := 29) dX10_kinds_29 rfl rfl ?_
    refine x_iastn (pc := 30) (a := b) dX10_kinds_30 hM.s16 (by omega) (by omega) ?_
    have hk2 := hms.setKind (i := b) hi
    have f3 : mdT M I (up2 I2 (M + 17) b (nI i)) := f2.tr mdT.kd
    have hmd := h.keepT f3
    refine x_iconst (pc := 31) (v := 1) dX10_kinds_31 (by decide) ?_
    refine x_istore (pc := 32) (lv' := [(0, .ref M), (1, .int (nI b)), (2, .int (kdM (kindP V (rgVal ars V) b) i)), (3, .int (nI i)), (4, .int 1)]) dX10_kinds_32 (by decide) rfl ?_
    refine x_iconst (pc := 34) (v := 0) dX10_kinds_34 (by decide) ?_
    refine x_istore (pc := 35) (lv' := [(0, .ref M), (1, .int (nI b)), (2, .int (kdM (kindP V (rgVal ars V) b) i)), (3, .int (nI i)), (4, .int 1), (5, .int 0)]) dX10_kinds_35 (by decide) rfl ?_
    refine lm_film (W := setK V b i) (o := (rgVal ars V)) hM hi v6 (show V 8 2 + 20 < 1000000 by omega) v10 vm hb hmd.2.2.2.2.2.1 hmd.2.2.2.2.2.2.2.2.2 (fun I3 hy g1 => ?_) (fun I3 hx g1 => ?_) (V 8 5) 0 (by omega) _ hk2 mdT.rf (fun k hk => absurd hk (by omega))
    · refine lm_kindsY hi ?_
      have h9 := ih (i + 1) (by omega) I3 (f3.tr g1)
      rw [kdM_t (decide_eq_true hy)] at h9
      exact h9
    · refine lm_kindsN hi ?_
      have h9 := ih (i + 1) (by omega) I3 (f3.tr g1)
      rw [kdM_f (decide_eq_false (fun q => hx.elim (fun a ha => ha.2 (q a ha.1))))] at h9
      exact h9

set_option maxHeartbeats 4000000 in
set_option maxRecDepth 100000 in
theorem m_kinds {T : xT} {n : Nat} {sh : Nat → Nat × Nat} {I : xI} {R : xR} {L : xL} {P : xPost} {M : Nat} (hM : xModel sh R M) {V : xV} {B rc : Nat} {ars : Nat → xAR} (h : MDV I M V) (hv : VOK V B) (hB : B < 800000) (hr : mRings I M rc ars) (hV6 : V 8 6 ≤ rc) {x : Int32} (K : ∀ I2 : xI, MDV I2 M V → mdP M I I2 → P (n, sh, 0, 0) I2 R L (some (.int (spKinds V (rgVal ars V) x))))  : XM T zX10_kinds 7 [.ref M, .int x] n sh I R L P := by
  obtain ⟨v6, v12, v10, vb, vf, vw, vm, vta, vte, vod, vrg, vdi⟩ := id hv
  refine x_aload_n (pc := 0) dX10_kinds_0 rfl rfl ?_
  refine x_iload_n (pc := 1) dX10_kinds_1 rfl rfl ?_
  refine x_callV (pc := 2) (As := [.int _]) dX10_kinds_2 km_X10_isBeast kv_X10_isBeast kl_RX10_246 hM.s rfl rfl (by decide) ⟨Nat.le_refl _, Nat.le_refl _⟩ rfl (Nat.le_of_ble_eq_true rfl) (Nat.le_of_ble_eq_true rfl) (m_isBeast hM h.1 v6 (fun k hk ek => ⟨rfl, rfl, ?_⟩) (fun h1 => ⟨rfl, rfl, ?_⟩))
  · skip
    subst ek
    refine x_if_ne_t (pc := 5) (tgt := 10) dX10_kinds_5 (by decide) (by decide) ?_
    refine x_iconst (pc := 10) (v := 0) dX10_kinds_10 (by decide) ?_
    refine x_istore_n (pc := 11) (lv' := [(0, .ref M), (1, .int (nI k)), (2, .int 0)]) dX10_kinds_11 rfl (by decide) rfl ?_
    refine x_iconst (pc := 12) (v := 0) dX10_kinds_12 (by decide) ?_
    refine x_istore_n (pc := 13) (lv' := [(0, .ref M), (1, .int (nI k)), (2, .int 0), (3, .int 0)]) dX10_kinds_13 rfl (by decide) rfl ?_
    exact lm_kinds hM hv hB h hr hV6 hk K 7 0 (by omega) I mdT.rf
  · skip
    refine x_if_ne_f (pc := 5) (tgt := 10) dX10_kinds_5 (by decide) (by decide) ?_
    refine x_iconst (pc := 8) (v := -1) dX10_kinds_8 (by decide) ?_
    refine x_ireturn (pc := 9) dX10_kinds_9 ⟨_, rfl, rfl⟩ ⟨Nat.le_refl _, Nat.le_refl _⟩ ?_
    have h9 := K I h mdP.rf
    rw [spKinds_n h1] at h9
    exact h9

