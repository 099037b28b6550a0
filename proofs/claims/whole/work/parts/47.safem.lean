/-! ===== safe, from: the reference ===== -/
set_option maxHeartbeats 4000000 in
set_option maxRecDepth 100000 in
theorem m_isBeast {T : xT} {n : Nat} {sh : Nat → Nat × Nat} {I : xI} {R : xR} {L : xL} {P : xPost} {M : Nat} (hM : xModel sh R M) {nb : Nat} (hnb : I M 0 = nI nb) (hn6 : nb ≤ 6) {x : Int32} (K1 : ∀ k : Nat, k < nb → x = nI k → P (n, sh, 0, 0) I R L (some (.int 1))) (K2 : (x < 0 ∨ nI nb ≤ x) → P (n, sh, 0, 0) I R L (some (.int 0)))  : XM T zX10_isBeast 1 [.ref M, .int x] n sh I R L P := by
  refine x_aload_n (pc := 0) dX10_isBeast_0 rfl rfl ?_
  refine x_iload_n (pc := 1) dX10_isBeast_1 rfl rfl ?_
  refine x_iconst (pc := 2) (v := 0) dX10_isBeast_2 (by decide) ?_
  refine x_aload_n (pc := 3) dX10_isBeast_3 rfl rfl ?_
  refine x_get (pc := 4) dX10_isBeast_4 kf_RX10_7 hM.s rfl ?_
  rw [hnb]
  refine x_iconst (pc := 7) (v := 1) dX10_isBeast_7 (by decide) ?_
  refine x_isub (pc := 8) dX10_isBeast_8 ?_
  refine x_callV (pc := 9) (As := [.int _, .int _, .int _]) dX10_isBeast_9 km_X10_in kv_X10_in kl_RX10_231 hM.s rfl rfl (by decide) ⟨Nat.le_refl _, Nat.le_refl _⟩ rfl (Nat.le_of_ble_eq_true rfl) (Nat.le_of_ble_eq_true rfl) (m_in hM.s (fun h1 h2 => ⟨rfl, rfl, ?_⟩) (fun h1 => ⟨rfl, rfl, ?_⟩))
  · skip
    refine x_ireturn (pc := 12) dX10_isBeast_12 ⟨_, rfl, by decide⟩ ⟨Nat.le_refl _, Nat.le_refl _⟩ ?_
    exact (isb_in hn6 h1 h2).elim (fun k hk => K1 k hk.1 hk.2)
  · skip
    refine x_ireturn (pc := 12) dX10_isBeast_12 ⟨_, rfl, by decide⟩ ⟨Nat.le_refl _, Nat.le_refl _⟩ ?_
    exact K2 (isb_out hn6 h1)

set_option maxHeartbeats 4000000 in
set_option maxRecDepth 100000 in
theorem lm_safe0 {T : xT} {n : Nat} {sh : Nat → Nat × Nat} {I : xI} {R : xR} {L : xL} {P : xPost} {M nb ta te lo : Nat} {ki ve ce sto hu : Nat → Nat} {o : Option xAR} {q : Nat} (hq : q < 36) {s : Int64} (h : MS sh R I M nb ki ve ce sto hu ta te lo o) (K : X T zX10_safe 6 0 0 P 73 [(0, .ref M), (1, .long s), (3, .int (nI q)), (4, .int 0)] [] (n, sh, 0, 0) I R L)  : ∀ (w i : Nat), i + w = nb → X T zX10_safe 6 0 0 P 36 [(0, .ref M), (1, .long s), (3, .int (nI q)), (4, .int 0), (5, .int (nI i))] [] (n, sh, 0, 0) (I) R L := by
  have hM := h.1
  have hn6 := h.2.1
  intro w
  induction w with
  | zero =>
    intro i hw
    have hz : i = nb := by omega
    refine x_iload (pc := 36) dX10_safe_36 rfl ?_
    refine x_aload_n (pc := 38) dX10_safe_38 rfl rfl ?_
    refine x_get (pc := 39) dX10_safe_39 kf_RX10_7 hM.s rfl ?_
    rw [h.2.2.1]
    refine x_icmpn_ge_t (pc := 42) (tgt := 73) (a := i) (b := nb) dX10_safe_42 (by decide) (by omega) (by omega) (by omega) ?_
    exact X.keep [0, 1, 3, 4] rfl K
  | succ w ih =>
    intro i hw
    have hi : i < nb := by omega
    refine x_iload (pc := 36) dX10_safe_36 rfl ?_
    refine x_aload_n (pc := 38) dX10_safe_38 rfl rfl ?_
    refine x_get (pc := 39) dX10_safe_39 kf_RX10_7 hM.s rfl ?_
    rw [h.2.2.1]
    refine x_icmpn_ge_f (pc := 42) (tgt := 73) (a := i) (b := nb) dX10_safe_42 (by decide) (by omega) (by omega) (by omega) ?_
    refine x_iload (pc := 45) dX10_safe_45 rfl ?_
    refine x_if_eq_t (pc := 47) (tgt := 64) dX10_safe_47 (by decide) (by decide) ?_
    refine x_iconst (pc := 64) (v := 0) dX10_safe_64 (by decide) ?_
    refine x_istore (pc := 65) (lv' := [(0, .ref M), (1, .long s), (3, .int (nI q)), (4, .int 0), (5, .int (nI i))]) dX10_safe_65 (by decide) rfl ?_
    refine x_iinc (pc := 67) (v := nI (i + 1)) (lv' := [(0, .ref M), (1, .long s), (3, .int (nI q)), (4, .int 0), (5, .int (nI (i + 1)))]) dX10_safe_67 rfl (nI_1 _) (by decide) rfl ?_
    refine x_goto (pc := 70) (tgt := 36) dX10_safe_70 (by decide) ?_
    exact ih (i + 1) (by omega)

set_option maxHeartbeats 4000000 in
set_option maxRecDepth 100000 in
theorem lm_safe1 {T : xT} {n : Nat} {sh : Nat → Nat × Nat} {I : xI} {R : xR} {L : xL} {P : xPost} {M nb ta te lo : Nat} {ki ve ce sto hu : Nat → Nat} {o : Option xAR} {q : Nat} (hq : q < 36) {s : Int64} (h : MS sh R I M nb ki ve ce sto hu ta te lo o) (K1 : ∀ J : xI, (∀ i, i < nb → ¬ (deedN nb ki ve ce sto hu ta te lo (lnO o) i).1 = 2) → MS sh R J M nb ki ve ce sto hu ta te lo o → mdFr M I J → X T zX10_safe 6 0 0 P 73 [(0, .ref M), (1, .long s), (3, .int (nI q)), (4, .int 1)] [] (n, sh, 0, 0) J R L) (K2 : ∀ J : xI, (∃ i, i < nb ∧ (deedN nb ki ve ce sto hu ta te lo (lnO o) i).1 = 2) → MS sh R J M nb ki ve ce sto hu ta te lo o → mdFr M I J → X T zX10_safe 6 0 0 P 73 [(0, .ref M), (1, .long s), (3, .int (nI q)), (4, .int 0)] [] (n, sh, 0, 0) J R L)  : ∀ (w i : Nat), i + w = nb → ∀ (J : xI), MS sh R J M nb ki ve ce sto hu ta te lo o → mdFr M I J → (∀ j, j < i → ¬ (deedN nb ki ve ce sto hu ta te lo (lnO o) j).1 = 2) → X T zX10_safe 6 0 0 P 36 [(0, .ref M), (1, .long s), (3, .int (nI q)), (4, .int 1), (5, .int (nI i))] [] (n, sh, 0, 0) (J) R L := by
  have hM := h.1
  have hn6 := h.2.1
  intro w
  induction w with
  | zero =>
    intro i hw J hj fj hno
    have hz : i = nb := by omega
    refine x_iload (pc := 36) dX10_safe_36 rfl ?_
    refine x_aload_n (pc := 38) dX10_safe_38 rfl rfl ?_
    refine x_get (pc := 39) dX10_safe_39 kf_RX10_7 hM.s rfl ?_
    rw [hj.2.2.1]
    refine x_icmpn_ge_t (pc := 42) (tgt := 73) (a := i) (b := nb) dX10_safe_42 (by decide) (by omega) (by omega) (by omega) ?_
    exact X.keep [0, 1, 3, 4] rfl (K1 J (fun a ha => hno a (by omega)) hj fj)
  | succ w ih =>
    intro i hw J hj fj hno
    have hi : i < nb := by omega
    refine x_iload (pc := 36) dX10_safe_36 rfl ?_
    refine x_aload_n (pc := 38) dX10_safe_38 rfl rfl ?_
    refine x_get (pc := 39) dX10_safe_39 kf_RX10_7 hM.s rfl ?_
    rw [hj.2.2.1]
    refine x_icmpn_ge_f (pc := 42) (tgt := 73) (a := i) (b := nb) dX10_safe_42 (by decide) (by omega) (by omega) (by omega) ?_
    refine x_iload (pc := 45) dX10_safe_45 rfl ?_
    refine x_if_eq_f (pc := 47) (tgt := 64) dX10_safe_47 (by decide) (by decide) ?_
    refine x_aload_n (pc := 50) dX10_safe_50 rfl rfl ?_
    refine x_iload (pc := 51) dX10_safe_51 rfl ?_
    refine x_callV (pc := 53) (As := [.int _]) dX10_safe_53 km_X10_doesOf kv_X10_doesOf kl_RX10_341 hM.s rfl rfl (by decide) ⟨Nat.le_refl _, Nat.le_refl _⟩ rfl (Nat.le_of_ble_eq_true rfl) (Nat.le_of_ble_eq_true rfl) (m_doesOf hj hi (fun I2 g1 g3 => ⟨rfl, rfl, ?_⟩))
    have h2 := hj.keep g1
    have dlt : (deedN nb ki ve ce sto hu ta te lo (lnO o) i).1 < 4 := deedN_code
    refine x_iconst (pc := 56) (v := 2) dX10_safe_56 (by decide) ?_
    refine x_icmpn_eq (pc := 57) (tgt := 64) (a := (deedN nb ki ve ce sto hu ta te lo (lnO o) i).1) (b := 2) dX10_safe_57 (by decide) (by omega) (by decide) (fun c57 => ?_) (fun c57 => ?_)
    · skip
      refine x_iconst (pc := 64) (v := 0) dX10_safe_64 (by decide) ?_
      refine x_istore (pc := 65) (lv' := [(0, .ref M), (1, .long s), (3, .int (nI q)), (4, .int 0), (5, .int (nI i))]) dX10_safe_65 (by decide) rfl ?_
      refine x_iinc (pc := 67) (v := nI (i + 1)) (lv' := [(0, .ref M), (1, .long s), (3, .int (nI q)), (4, .int 0), (5, .int (nI (i + 1)))]) dX10_safe_67 rfl (nI_1 _) (by decide) rfl ?_
      refine x_goto (pc := 70) (tgt := 36) dX10_safe_70 (by decide) ?_
      exact lm_safe0 hq h2 (K2 I2 ⟨i, hi, c57⟩ h2 (fj.tr g1)) w (i + 1) (by omega)
    · skip
      refine x_iconst (pc := 60) (v := 1) dX10_safe_60 (by decide) ?_
      refine x_goto (pc := 61) (tgt := 65) dX10_safe_61 (by decide) ?_
      refine x_istore (pc := 65) (lv' := [(0, .ref M), (1, .long s), (3, .int (nI q)), (4, .int 1), (5, .int (nI i))]) dX10_safe_65 (by decide) rfl ?_
      refine x_iinc (pc := 67) (v := nI (i + 1)) (lv' := [(0, .ref M), (1, .long s), (3, .int (nI q)), (4, .int 1), (5, .int (nI (i + 1)))]) dX10_safe_67 rfl (nI_1 _) (by decide) rfl ?_
      refine x_goto (pc := 70) (tgt := 36) dX10_safe_70 (by decide) ?_
      exact ih (i + 1) (by omega) I2 h2 (fj.tr g1) (fun j hj9 => (Nat.lt_succ_iff_lt_or_eq.mp hj9).elim (hno j) (fun e9 => by subst e9; exact c57))

set_option maxHeartbeats 4000000 in
set_option maxRecDepth 100000 in
theorem lm_safeY {T : xT} {n : Nat} {sh : Nat → Nat × Nat} {I : xI} {R : xR} {L : xL} {P : xPost} {M q : Nat} (hq : q < 36) {s : Int64} (K : X T zX10_safe 6 0 0 P 8 [(0, .ref M), (1, .long (s ||| xlshl 1 (nI q))), (3, .int (nI (q + 1)))] [] (n, sh, 0, 0) I R L)  :  X T zX10_safe 6 0 0 P 73 [(0, .ref M), (1, .long s), (3, .int (nI q)), (4, .int 1)] [] (n, sh, 0, 0) (I) R L := by
  refine x_lload_n (pc := 73) dX10_safe_73 rfl rfl ?_
  refine x_iload (pc := 74) dX10_safe_74 rfl ?_
  refine x_if_eq_f (pc := 76) (tgt := 85) dX10_safe_76 (by decide) (by decide) ?_
  refine x_lconst (pc := 79) (v := 1) dX10_safe_79 (by decide) ?_
  refine x_iload_n (pc := 80) dX10_safe_80 rfl rfl ?_
  refine x_lshl (pc := 81) dX10_safe_81 ?_
  refine x_goto (pc := 82) (tgt := 86) dX10_safe_82 (by decide) ?_
  refine x_lor (pc := 86) dX10_safe_86 ?_
  refine x_topl (fun v87 ev87 => ?_)
  refine x_lstore_n (pc := 87) (lv' := [(0, .ref M), (1, .long v87), (3, .int (nI q)), (4, .int 1)]) dX10_safe_87 rfl (by decide) rfl ?_
  refine x_iinc (pc := 88) (v := nI (q + 1)) (lv' := [(0, .ref M), (1, .long v87), (3, .int (nI (q + 1))), (4, .int 1)]) dX10_safe_88 rfl (nI_1 _) (by decide) rfl ?_
  refine x_goto (pc := 91) (tgt := 8) dX10_safe_91 (by decide) ?_
  subst ev87
  exact X.keep [0, 1, 3] rfl K

set_option maxHeartbeats 4000000 in
set_option maxRecDepth 100000 in
theorem lm_safeN {T : xT} {n : Nat} {sh : Nat → Nat × Nat} {I : xI} {R : xR} {L : xL} {P : xPost} {M q : Nat} (hq : q < 36) {s : Int64} (K : X T zX10_safe 6 0 0 P 8 [(0, .ref M), (1, .long s), (3, .int (nI (q + 1)))] [] (n, sh, 0, 0) I R L)  :  X T zX10_safe 6 0 0 P 73 [(0, .ref M), (1, .long s), (3, .int (nI q)), (4, .int 0)] [] (n, sh, 0, 0) (I) R L := by
  refine x_lload_n (pc := 73) dX10_safe_73 rfl rfl ?_
  refine x_iload (pc := 74) dX10_safe_74 rfl ?_
  refine x_if_eq_t (pc := 76) (tgt := 85) dX10_safe_76 (by decide) (by decide) ?_
  refine x_lconst (pc := 85) (v := 0) dX10_safe_85 (by decide) ?_
  refine x_lor (pc := 86) dX10_safe_86 ?_
  refine x_topl (fun v87 ev87 => ?_)
  refine x_lstore_n (pc := 87) (lv' := [(0, .ref M), (1, .long v87), (3, .int (nI q)), (4, .int 0)]) dX10_safe_87 rfl (by decide) rfl ?_
  refine x_iinc (pc := 88) (v := nI (q + 1)) (lv' := [(0, .ref M), (1, .long v87), (3, .int (nI (q + 1))), (4, .int 0)]) dX10_safe_88 rfl (nI_1 _) (by decide) rfl ?_
  refine x_goto (pc := 91) (tgt := 8) dX10_safe_91 (by decide) ?_
  subst ev87
  rw [Int64.or_zero]
  exact X.keep [0, 1, 3] rfl K

set_option maxHeartbeats 4000000 in
set_option maxRecDepth 100000 in
theorem lm_safe {T : xT} {n : Nat} {sh : Nat → Nat × Nat} {I : xI} {R : xR} {L : xL} {P : xPost} {M : Nat} (hM : xModel sh R M) {V : xV} {B : Nat} {ars : Nat → xAR} (hv : VOK V B) (h : MDV I M V) (K : ∀ I2 : xI, MDV I2 M V → mdP M I I2 → P (n, sh, 0, 0) I2 R L (some (.long (spSafe V (rgVal ars V)))))  : ∀ (w i : Nat), i + w = 36 → ∀ (J : xI) (t : Nat), MS sh R J M (V 8 0) (V 0) (V 1) (V 2) (V 3) (V 4) t (V 8 2) 0 (rgVal ars V) → mdT M I J → X T zX10_safe 6 0 0 P 8 [(0, .ref M), (1, .long (sfM (safeP V (rgVal ars V)) i)), (3, .int (nI i))] [] (n, sh, 0, 0) (J) R L := by
  obtain ⟨v6, v12, v10, vb, vf, vw, vm, vta, vte, vod, vrg, vdi⟩ := id hv
  intro w
  induction w with
  | zero =>
    intro i hw J t hj ff
    have hz : i = 36 := by omega
    refine x_iload_n (pc := 8) dX10_safe_8 rfl rfl ?_
    refine x_bipush (pc := 9) (v := 36) dX10_safe_9 (by decide) ?_
    refine x_icmpn_ge_t (pc := 11) (tgt := 94) (a := i) (b := 36) dX10_safe_11 (by decide) (by omega) (by decide) (by omega) ?_
    refine x_lload_n (pc := 94) dX10_safe_94 rfl rfl ?_
    refine x_lreturn (pc := 95) dX10_safe_95 rfl ⟨Nat.le_refl _, Nat.le_refl _⟩ ?_
    rw [hz]
    exact K J (h.keepT ff) ff.mdP
  | succ w ih =>
    intro i hw J t hj ff
    have hi : i < 36 := by omega
    refine x_iload_n (pc := 8) dX10_safe_8 rfl rfl ?_
    refine x_bipush (pc := 9) (v := 36) dX10_safe_9 (by decide) ?_
    refine x_icmpn_ge_f (pc := 11) (tgt := 94) (a := i) (b := 36) dX10_safe_11 (by decide) (by omega) (by decide) (by omega) ?_
    refine x_aload_n (pc := 14) dX10_safe_14 rfl rfl ?_
    refine x_iload_n (pc := 15) dX10_safe_15 rfl rfl ?_
    refine x_callV (pc := 16) (As := [.int _]) dX10_safe_16 km_X10_isTaken kv_X10_isTaken kl_RX10_307 hM.s rfl rfl (by decide) ⟨Nat.le_refl _, Nat.le_refl _⟩ rfl (Nat.le_of_ble_eq_true rfl) (Nat.le_of_ble_eq_true rfl) (m_isTaken hM hj.2.2.1 v6 hj.2.2.2.2.2.1 (fun a ha => (vb a ha).2.2.1) hi (fun hh => ⟨rfl, rfl, ?_⟩) (fun hf => ⟨rfl, rfl, ?_⟩))
    · skip
      refine x_if_eq_f (pc := 19) (tgt := 25) dX10_safe_19 (by decide) (by decide) ?_
      refine x_goto (pc := 22) (tgt := 88) dX10_safe_22 (by decide) ?_
      refine x_iinc (pc := 88) (v := nI (i + 1)) (lv' := [(0, .ref M), (1, .long (sfM (safeP V (rgVal ars V)) i)), (3, .int (nI (i + 1)))]) dX10_safe_88 rfl (nI_1 _) (by decide) rfl ?_
      refine x_goto (pc := 91) (tgt := 8) dX10_safe_91 (by decide) ?_
      have h9 := ih (i + 1) (by omega) J t hj ff
      rw [sfM_f (safeP_h hh)] at h9
      exact h9
    · skip
      refine x_if_eq_t (pc := 19) (tgt := 25) dX10_safe_19 (by decide) (by decide) ?_
      refine x_aload_n (pc := 25) dX10_safe_25 rfl rfl ?_
      refine x_iload_n (pc := 26) dX10_safe_26 rfl rfl ?_
      refine x_put (pc := 27) dX10_safe_27 kf_RX10_92 hM.s rfl (Or.inl kb_10_27) ?_
      have hc2 := hj.setTamer hi
      have ff9 : mdT M I (up2 J M 27 (nI i)) := ff.tr (mdT.fld (by decide))
      refine x_iconst (pc := 30) (v := 1) dX10_safe_30 (by decide) ?_
      refine x_istore (pc := 31) (lv' := [(0, .ref M), (1, .long (sfM (safeP V (rgVal ars V)) i)), (3, .int (nI i)), (4, .int 1)]) dX10_safe_31 (by decide) rfl ?_
      refine x_iconst (pc := 33) (v := 0) dX10_safe_33 (by decide) ?_
      refine x_istore (pc := 34) (lv' := [(0, .ref M), (1, .long (sfM (safeP V (rgVal ars V)) i)), (3, .int (nI i)), (4, .int 1), (5, .int 0)]) dX10_safe_34 (by decide) rfl ?_
      refine lm_safe1 hi hc2 (fun I2 hy h3 g1 => ?_) (fun I2 hx h3 g1 => ?_) (V 8 0) 0 (by omega) _ hc2 mdFr.rf (fun j hj9 => absurd hj9 (by omega))
      · refine lm_safeY hi ?_
        have h9 := ih (i + 1) (by omega) I2 i h3 (ff9.tr (mdT.of g1))
        rw [sfM_t (safeP_t hf hy)] at h9
        exact h9
      · refine lm_safeN hi ?_
        have h9 := ih (i + 1) (by omega) I2 i h3 (ff9.tr (mdT.of g1))
        rw [sfM_f (safeP_c hx)] at h9
        exact h9

set_option maxHeartbeats 4000000 in
set_option maxRecDepth 100000 in
theorem m_safe {T : xT} {n : Nat} {sh : Nat → Nat × Nat} {I : xI} {R : xR} {L : xL} {P : xPost} {M : Nat} (hM : xModel sh R M) {V : xV} {B rc : Nat} {ars : Nat → xAR} (h : MDV I M V) (hv : VOK V B) (hB : B < 800000) (hr : mRings I M rc ars) (hV6 : V 8 6 ≤ rc) (K : ∀ I2 : xI, MDV I2 M V → mdP M I I2 → P (n, sh, 0, 0) I2 R L (some (.long (spSafe V (rgVal ars V)))))  : XM T zX10_safe 6 [.ref M] n sh I R L P := by
  refine x_aload_n (pc := 0) dX10_safe_0 rfl rfl ?_
  refine x_callV (pc := 1) (As := []) dX10_safe_1 km_X10_asIs kv_X10_asIs kl_RX10_338 hM.s rfl rfl (by decide) ⟨Nat.le_refl _, Nat.le_refl _⟩ rfl (Nat.le_of_ble_eq_true rfl) (Nat.le_of_ble_eq_true rfl) (m_asIs hM (fun I2 k1 k2 k3 k4 k5 k6 k7 => ⟨rfl, rfl, ?_⟩))
  refine x_lconst (pc := 4) (v := 0) dX10_safe_4 (by decide) ?_
  refine x_lstore_n (pc := 5) (lv' := [(0, .ref M), (1, .long 0)]) dX10_safe_5 rfl (by decide) rfl ?_
  refine x_iconst (pc := 6) (v := 0) dX10_safe_6 (by decide) ?_
  refine x_istore_n (pc := 7) (lv' := [(0, .ref M), (1, .long 0), (3, .int 0)]) dX10_safe_7 rfl (by decide) rfl ?_
  exact lm_safe hM hv (h.keepT (mdT.asIs k1 k2)) (fun I3 h3 f3 => K I3 h3 ((mdT.asIs k1 k2).mdP.tr f3)) 36 0 (by omega) I2 (V 8 1) (h.toMS hM hv hB hr hV6 k1 k2 k3 k4 k5 k6 k7) mdT.rf

set_option maxHeartbeats 4000000 in
set_option maxRecDepth 100000 in
theorem lm_from0 {T : xT} {n : Nat} {sh : Nat → Nat × Nat} {I : xI} {R : xR} {L : xL} {P : xPost} {M nb ta te lo : Nat} {ki ve ce sto hu : Nat → Nat} {o : Option xAR} {q : Nat} (hq : q < 36) {b : Nat} (hb : b < 6) (h : MS sh R I M nb ki ve ce sto hu ta te lo o) (K : ∀ J : xI, MS sh R J M nb ki ve ce sto hu ta te lo o → mdFr M I J → X T zX10_from 6 0 0 P 100 [(0, .ref M), (1, .int (nI b)), (2, .int (nI q)), (3, .int 0)] [] (n, sh, 0, 0) J R L)  : ∀ (w i : Nat), i + w = nb → ∀ (J : xI), MS sh R J M nb ki ve ce sto hu ta te lo o → mdFr M I J → X T zX10_from 6 0 0 P 43 [(0, .ref M), (1, .int (nI b)), (2, .int (nI q)), (3, .int 0), (4, .int (nI i))] [] (n, sh, 0, 0) (J) R L := by
  have hM := h.1
  have hn6 := h.2.1
  intro w
  induction w with
  | zero =>
    intro i hw J hj fj
    have hz : i = nb := by omega
    refine x_iload (pc := 43) dX10_from_43 rfl ?_
    refine x_aload_n (pc := 45) dX10_from_45 rfl rfl ?_
    refine x_get (pc := 46) dX10_from_46 kf_RX10_7 hM.s rfl ?_
    rw [hj.2.2.1]
    refine x_icmpn_ge_t (pc := 49) (tgt := 100) (a := i) (b := nb) dX10_from_49 (by decide) (by omega) (by omega) (by omega) ?_
    exact X.keep [0, 1, 2, 3] rfl (K J hj fj)
  | succ w ih =>
    intro i hw J hj fj
    have hi : i < nb := by omega
    refine x_iload (pc := 43) dX10_from_43 rfl ?_
    refine x_aload_n (pc := 45) dX10_from_45 rfl rfl ?_
    refine x_get (pc := 46) dX10_from_46 kf_RX10_7 hM.s rfl ?_
    rw [hj.2.2.1]
    refine x_icmpn_ge_f (pc := 49) (tgt := 100) (a := i) (b := nb) dX10_from_49 (by decide) (by omega) (by omega) (by omega) ?_
    refine x_aload_n (pc := 52) dX10_from_52 rfl rfl ?_
    refine x_iload (pc := 53) dX10_from_53 rfl ?_
    refine x_callV (pc := 55) (As := [.int _]) dX10_from_55 km_X10_doesOf kv_X10_doesOf kl_RX10_341 hM.s rfl rfl (by decide) ⟨Nat.le_refl _, Nat.le_refl _⟩ rfl (Nat.le_of_ble_eq_true rfl) (Nat.le_of_ble_eq_true rfl) (m_doesOf hj hi (fun I2 g1 g3 => ⟨rfl, rfl, ?_⟩))
    have h2 := hj.keep g1
    have dlt : (deedN nb ki ve ce sto hu ta te lo (lnO o) i).1 < 4 := deedN_code
    refine x_ifn_le (pc := 58) (tgt := 65) (a := (deedN nb ki ve ce sto hu ta te lo (lnO o) i).1) dX10_from_58 (by decide) (by omega) (fun c58 => ?_) (fun c58 => ?_)
    · skip
      refine x_iconst (pc := 65) (v := 0) dX10_from_65 (by decide) ?_
      refine x_istore (pc := 66) (lv' := [(0, .ref M), (1, .int (nI b)), (2, .int (nI q)), (3, .int 0), (4, .int (nI i)), (5, .int 0)]) dX10_from_66 (by decide) rfl ?_
      refine x_iload_n (pc := 68) dX10_from_68 rfl rfl ?_
      refine x_if_eq_t (pc := 69) (tgt := 92) dX10_from_69 (by decide) (by decide) ?_
      refine x_iconst (pc := 92) (v := 0) dX10_from_92 (by decide) ?_
      refine x_istore_n (pc := 93) (lv' := [(0, .ref M), (1, .int (nI b)), (2, .int (nI q)), (3, .int 0), (4, .int (nI i)), (5, .int 0)]) dX10_from_93 rfl (by decide) rfl ?_
      refine x_iinc (pc := 94) (v := nI (i + 1)) (lv' := [(0, .ref M), (1, .int (nI b)), (2, .int (nI q)), (3, .int 0), (4, .int (nI (i + 1))), (5, .int 0)]) dX10_from_94 rfl (nI_1 _) (by decide) rfl ?_
      refine x_goto (pc := 97) (tgt := 43) dX10_from_97 (by decide) ?_
      exact X.keep [0, 1, 2, 3, 4] rfl (ih (i + 1) (by omega) I2 h2 (fj.tr g1))
    · skip
      refine x_iconst (pc := 61) (v := 1) dX10_from_61 (by decide) ?_
      refine x_goto (pc := 62) (tgt := 66) dX10_from_62 (by decide) ?_
      refine x_istore (pc := 66) (lv' := [(0, .ref M), (1, .int (nI b)), (2, .int (nI q)), (3, .int 0), (4, .int (nI i)), (5, .int 1)]) dX10_from_66 (by decide) rfl ?_
      refine x_iload_n (pc := 68) dX10_from_68 rfl rfl ?_
      refine x_if_eq_t (pc := 69) (tgt := 92) dX10_from_69 (by decide) (by decide) ?_
      refine x_iconst (pc := 92) (v := 0) dX10_from_92 (by decide) ?_
      refine x_istore_n (pc := 93) (lv' := [(0, .ref M), (1, .int (nI b)), (2, .int (nI q)), (3, .int 0), (4, .int (nI i)), (5, .int 1)]) dX10_from_93 rfl (by decide) rfl ?_
      refine x_iinc (pc := 94) (v := nI (i + 1)) (lv' := [(0, .ref M), (1, .int (nI b)), (2, .int (nI q)), (3, .int 0), (4, .int (nI (i + 1))), (5, .int 1)]) dX10_from_94 rfl (nI_1 _) (by decide) rfl ?_
      refine x_goto (pc := 97) (tgt := 43) dX10_from_97 (by decide) ?_
      exact X.keep [0, 1, 2, 3, 4] rfl (ih (i + 1) (by omega) I2 h2 (fj.tr g1))

set_option maxHeartbeats 4000000 in
set_option maxRecDepth 100000 in
theorem lm_from1 {T : xT} {n : Nat} {sh : Nat → Nat × Nat} {I : xI} {R : xR} {L : xL} {P : xPost} {M nb ta te lo : Nat} {ki ve ce sto hu : Nat → Nat} {o : Option xAR} {q : Nat} (hq : q < 36) {b : Nat} (hb : b < 6) (h : MS sh R I M nb ki ve ce sto hu ta te lo o) (K1 : ∀ J : xI, (∀ i, i < nb → (¬ (deedN nb ki ve ce sto hu ta te lo (lnO o) i).1 = 0 ↔ i = b)) → MS sh R J M nb ki ve ce sto hu ta te lo o → mdFr M I J → X T zX10_from 6 0 0 P 100 [(0, .ref M), (1, .int (nI b)), (2, .int (nI q)), (3, .int 1)] [] (n, sh, 0, 0) J R L) (K2 : ∀ J : xI, (∃ i, i < nb ∧ ¬ (¬ (deedN nb ki ve ce sto hu ta te lo (lnO o) i).1 = 0 ↔ i = b)) → MS sh R J M nb ki ve ce sto hu ta te lo o → mdFr M I J → X T zX10_from 6 0 0 P 100 [(0, .ref M), (1, .int (nI b)), (2, .int (nI q)), (3, .int 0)] [] (n, sh, 0, 0) J R L)  : ∀ (w i : Nat), i + w = nb → ∀ (J : xI), MS sh R J M nb ki ve ce sto hu ta te lo o → mdFr M I J → (∀ j, j < i → (¬ (deedN nb ki ve ce sto hu ta te lo (lnO o) j).1 = 0 ↔ j = b)) → X T zX10_from 6 0 0 P 43 [(0, .ref M), (1, .int (nI b)), (2, .int (nI q)), (3, .int 1), (4, .int (nI i))] [] (n, sh, 0, 0) (J) R L := by
  have hM := h.1
  have hn6 := h.2.1
  intro w
  induction w with
  | zero =>
    intro i hw J hj fj hno
    have hz : i = nb := by omega
    refine x_iload (pc := 43) dX10_from_43 rfl ?_
    refine x_aload_n (pc := 45) dX10_from_45 rfl rfl ?_
    refine x_get (pc := 46) dX10_from_46 kf_RX10_7 hM.s rfl ?_
    rw [hj.2.2.1]
    refine x_icmpn_ge_t (pc := 49) (tgt := 100) (a := i) (b := nb) dX10_from_49 (by decide) (by omega) (by omega) (by omega) ?_
    exact X.keep [0, 1, 2, 3] rfl (K1 J (fun a ha => hno a (by omega)) hj fj)
  | succ w ih =>
    intro i hw J hj fj hno
    have hi : i < nb := by omega
    refine x_iload (pc := 43) dX10_from_43 rfl ?_
    refine x_aload_n (pc := 45) dX10_from_45 rfl rfl ?_
    refine x_get (pc := 46) dX10_from_46 kf_RX10_7 hM.s rfl ?_
    rw [hj.2.2.1]
    refine x_icmpn_ge_f (pc := 49) (tgt := 100) (a := i) (b := nb) dX10_from_49 (by decide) (by omega) (by omega) (by omega) ?_
    refine x_aload_n (pc := 52) dX10_from_52 rfl rfl ?_
    refine x_iload (pc := 53) dX10_from_53 rfl ?_
    refine x_callV (pc := 55) (As := [.int _]) dX10_from_55 km_X10_doesOf kv_X10_doesOf kl_RX10_341 hM.s rfl rfl (by decide) ⟨Nat.le_refl _, Nat.le_refl _⟩ rfl (Nat.le_of_ble_eq_true rfl) (Nat.le_of_ble_eq_true rfl) (m_doesOf hj hi (fun I2 g1 g3 => ⟨rfl, rfl, ?_⟩))
    have h2 := hj.keep g1
    have dlt : (deedN nb ki ve ce sto hu ta te lo (lnO o) i).1 < 4 := deedN_code
    refine x_ifn_le (pc := 58) (tgt := 65) (a := (deedN nb ki ve ce sto hu ta te lo (lnO o) i).1) dX10_from_58 (by decide) (by omega) (fun c58 => ?_) (fun c58 => ?_)
    · skip
      refine x_iconst (pc := 65) (v := 0) dX10_from_65 (by decide) ?_
      refine x_istore (pc := 66) (lv' := [(0, .ref M), (1, .int (nI b)), (2, .int (nI q)), (3, .int 1), (4, .int (nI i)), (5, .int 0)]) dX10_from_66 (by decide) rfl ?_
      refine x_iload_n (pc := 68) dX10_from_68 rfl rfl ?_
      refine x_if_eq_f (pc := 69) (tgt := 92) dX10_from_69 (by decide) (by decide) ?_
      refine x_iload (pc := 72) dX10_from_72 rfl ?_
      refine x_iload (pc := 74) dX10_from_74 rfl ?_
      refine x_iload_n (pc := 76) dX10_from_76 rfl rfl ?_
      refine x_icmpn_ne (pc := 77) (tgt := 84) (a := i) (b := b) dX10_from_77 (by decide) (by omega) (by omega) (fun c77 => ?_) (fun c77 => ?_)
      · skip
        refine x_iconst (pc := 84) (v := 0) dX10_from_84 (by decide) ?_
        refine x_icmp_ne_f (pc := 85) (tgt := 92) dX10_from_85 (by decide) (by decide) ?_
        refine x_iconst (pc := 88) (v := 1) dX10_from_88 (by decide) ?_
        refine x_goto (pc := 89) (tgt := 93) dX10_from_89 (by decide) ?_
        refine x_istore_n (pc := 93) (lv' := [(0, .ref M), (1, .int (nI b)), (2, .int (nI q)), (3, .int 1), (4, .int (nI i)), (5, .int 0)]) dX10_from_93 rfl (by decide) rfl ?_
        refine x_iinc (pc := 94) (v := nI (i + 1)) (lv' := [(0, .ref M), (1, .int (nI b)), (2, .int (nI q)), (3, .int 1), (4, .int (nI (i + 1))), (5, .int 0)]) dX10_from_94 rfl (nI_1 _) (by decide) rfl ?_
        refine x_goto (pc := 97) (tgt := 43) dX10_from_97 (by decide) ?_
        exact X.keep [0, 1, 2, 3, 4] rfl (ih (i + 1) (by omega) I2 h2 (fj.tr g1) (fun j hj9 => (Nat.lt_succ_iff_lt_or_eq.mp hj9).elim (hno j) (fun e9 => by subst e9; constructor <;> intro _ <;> omega)))
      · skip
        refine x_iconst (pc := 80) (v := 1) dX10_from_80 (by decide) ?_
        refine x_goto (pc := 81) (tgt := 85) dX10_from_81 (by decide) ?_
        refine x_icmp_ne_t (pc := 85) (tgt := 92) dX10_from_85 (by decide) (by decide) ?_
        refine x_iconst (pc := 92) (v := 0) dX10_from_92 (by decide) ?_
        refine x_istore_n (pc := 93) (lv' := [(0, .ref M), (1, .int (nI b)), (2, .int (nI q)), (3, .int 0), (4, .int (nI i)), (5, .int 0)]) dX10_from_93 rfl (by decide) rfl ?_
        refine x_iinc (pc := 94) (v := nI (i + 1)) (lv' := [(0, .ref M), (1, .int (nI b)), (2, .int (nI q)), (3, .int 0), (4, .int (nI (i + 1))), (5, .int 0)]) dX10_from_94 rfl (nI_1 _) (by decide) rfl ?_
        refine x_goto (pc := 97) (tgt := 43) dX10_from_97 (by decide) ?_
        exact X.keep [0, 1, 2, 3, 4] rfl (lm_from0 hq hb h2 (fun J2 hj2 g2 => K2 J2 ⟨i, hi, fun e9 => by rcases e9 with ⟨e1, e2⟩; omega⟩ hj2 ((fj.tr g1).tr g2)) w (i + 1) (by omega) I2 h2 mdFr.rf)
    · skip
      refine x_iconst (pc := 61) (v := 1) dX10_from_61 (by decide) ?_
      refine x_goto (pc := 62) (tgt := 66) dX10_from_62 (by decide) ?_
      refine x_istore (pc := 66) (lv' := [(0, .ref M), (1, .int (nI b)), (2, .int (nI q)), (3, .int 1), (4, .int (nI i)), (5, .int 1)]) dX10_from_66 (by decide) rfl ?_
      refine x_iload_n (pc := 68) dX10_from_68 rfl rfl ?_
      refine x_if_eq_f (pc := 69) (tgt := 92) dX10_from_69 (by decide) (by decide) ?_
      refine x_iload (pc := 72) dX10_from_72 rfl ?_
      refine x_iload (pc := 74) dX10_from_74 rfl ?_
      refine x_iload_n (pc := 76) dX10_from_76 rfl rfl ?_
      refine x_icmpn_ne (pc := 77) (tgt := 84) (a := i) (b := b) dX10_from_77 (by decide) (by omega) (by omega) (fun c77 => ?_) (fun c77 => ?_)
      · skip
        refine x_iconst (pc := 84) (v := 0) dX10_from_84 (by decide) ?_
        refine x_icmp_ne_t (pc := 85) (tgt := 92) dX10_from_85 (by decide) (by decide) ?_
        refine x_iconst (pc := 92) (v := 0) dX10_from_92 (by decide) ?_
        refine x_istore_n (pc := 93) (lv' := [(0, .ref M), (1, .int (nI b)), (2, .int (nI q)), (3, .int 0), (4, .int (nI i)), (5, .int 1)]) dX10_from_93 rfl (by decide) rfl ?_
        refine x_iinc (pc := 94) (v := nI (i + 1)) (lv' := [(0, .ref M), (1, .int (nI b)), (2, .int (nI q)), (3, .int 0), (4, .int (nI (i + 1))), (5, .int 1)]) dX10_from_94 rfl (nI_1 _) (by decide) rfl ?_
        refine x_goto (pc := 97) (tgt := 43) dX10_from_97 (by decide) ?_
        exact X.keep [0, 1, 2, 3, 4] rfl (lm_from0 hq hb h2 (fun J2 hj2 g2 => K2 J2 ⟨i, hi, fun e9 => by rcases e9 with ⟨e1, e2⟩; omega⟩ hj2 ((fj.tr g1).tr g2)) w (i + 1) (by omega) I2 h2 mdFr.rf)
      · skip
        refine x_iconst (pc := 80) (v := 1) dX10_from_80 (by decide) ?_
        refine x_goto (pc := 81) (tgt := 85) dX10_from_81 (by decide) ?_
        refine x_icmp_ne_f (pc := 85) (tgt := 92) dX10_from_85 (by decide) (by decide) ?_
        refine x_iconst (pc := 88) (v := 1) dX10_from_88 (by decide) ?_
        refine x_goto (pc := 89) (tgt := 93) dX10_from_89 (by decide) ?_
        refine x_istore_n (pc := 93) (lv' := [(0, .ref M), (1, .int (nI b)), (2, .int (nI q)), (3, .int 1), (4, .int (nI i)), (5, .int 1)]) dX10_from_93 rfl (by decide) rfl ?_
        refine x_iinc (pc := 94) (v := nI (i + 1)) (lv' := [(0, .ref M), (1, .int (nI b)), (2, .int (nI q)), (3, .int 1), (4, .int (nI (i + 1))), (5, .int 1)]) dX10_from_94 rfl (nI_1 _) (by decide) rfl ?_
        refine x_goto (pc := 97) (tgt := 43) dX10_from_97 (by decide) ?_
        exact X.keep [0, 1, 2, 3, 4] rfl (ih (i + 1) (by omega) I2 h2 (fj.tr g1) (fun j hj9 => (Nat.lt_succ_iff_lt_or_eq.mp hj9).elim (hno j) (fun e9 => by subst e9; constructor <;> intro _ <;> omega)))

set_option maxHeartbeats 4000000 in
set_option maxRecDepth 100000 in
theorem lm_fromY {T : xT} {n : Nat} {sh : Nat → Nat × Nat} {I : xI} {R : xR} {L : xL} {P : xPost} {M q b : Nat} (hq : q < 36) (K : P (n, sh, 0, 0) I R L (some (.int (nI q))))  :  X T zX10_from 6 0 0 P 100 [(0, .ref M), (1, .int (nI b)), (2, .int (nI q)), (3, .int 1)] [] (n, sh, 0, 0) (I) R L := by
  refine x_iload_n (pc := 100) dX10_from_100 rfl rfl ?_
  refine x_if_eq_f (pc := 101) (tgt := 106) dX10_from_101 (by decide) (by decide) ?_
  refine x_iload_n (pc := 104) dX10_from_104 rfl rfl ?_
  refine x_ireturn (pc := 105) dX10_from_105 ⟨_, rfl, rfl⟩ ⟨Nat.le_refl _, Nat.le_refl _⟩ ?_
  exact K

set_option maxHeartbeats 4000000 in
set_option maxRecDepth 100000 in
theorem lm_fromN {T : xT} {n : Nat} {sh : Nat → Nat × Nat} {I : xI} {R : xR} {L : xL} {P : xPost} {M q b : Nat} (hq : q < 36) (K : X T zX10_from 6 0 0 P 16 [(0, .ref M), (1, .int (nI b)), (2, .int (nI (q + 1)))] [] (n, sh, 0, 0) I R L)  :  X T zX10_from 6 0 0 P 100 [(0, .ref M), (1, .int (nI b)), (2, .int (nI q)), (3, .int 0)] [] (n, sh, 0, 0) (I) R L := by
  refine x_iload_n (pc := 100) dX10_from_100 rfl rfl ?_
  refine x_if_eq_t (pc := 101) (tgt := 106) dX10_from_101 (by decide) (by decide) ?_
  refine x_iinc (pc := 106) (v := nI (q + 1)) (lv' := [(0, .ref M), (1, .int (nI b)), (2, .int (nI (q + 1))), (3, .int 0)]) dX10_from_106 rfl (nI_1 _) (by decide) rfl ?_
  refine x_goto (pc := 109) (tgt := 16) dX10_from_109 (by decide) ?_
  exact X.keep [0, 1, 2] rfl K

set_option maxHeartbeats 4000000 in
set_option maxRecDepth 100000 in
theorem lm_from {T : xT} {n : Nat} {sh : Nat → Nat × Nat} {I : xI} {R : xR} {L : xL} {P : xPost} {M : Nat} (hM : xModel sh R M) {V : xV} {B : Nat} {ars : Nat → xAR} (hv : VOK V B) (h : MDV I M V) {b : Nat} (hb : b < V 8 0) (K : ∀ I2 : xI, MDV I2 M V → mdP M I I2 → P (n, sh, 0, 0) I2 R L (some (.int (spFrom V (rgVal ars V) (nI b)))))  : ∀ (w i : Nat), i + w = 36 → ∀ (J : xI) (t : Nat), MS sh R J M (V 8 0) (V 0) (V 1) (V 2) (V 3) (V 4) t (V 8 2) 0 (rgVal ars V) → mdT M I J → (∀ j, j < i → fromP V (rgVal ars V) b j = false) → X T zX10_from 6 0 0 P 16 [(0, .ref M), (1, .int (nI b)), (2, .int (nI i))] [] (n, sh, 0, 0) (J) R L := by
  obtain ⟨v6, v12, v10, vb, vf, vw, vm, vta, vte, vod, vrg, vdi⟩ := id hv
  intro w
  induction w with
  | zero =>
    intro i hw J t hj ff hno
    have hz : i = 36 := by omega
    refine x_iload_n (pc := 16) dX10_from_16 rfl rfl ?_
    refine x_bipush (pc := 17) (v := 36) dX10_from_17 (by decide) ?_
    refine x_icmpn_ge_t (pc := 19) (tgt := 112) (a := i) (b := 36) dX10_from_19 (by decide) (by omega) (by decide) (by omega) ?_
    refine x_bipush (pc := 112) (v := -5) dX10_from_112 (by decide) ?_
    refine x_ireturn (pc := 114) dX10_from_114 ⟨_, rfl, rfl⟩ ⟨Nat.le_refl _, Nat.le_refl _⟩ ?_
    rw [hz] at hno
    have h9 := K J (h.keepT ff) ff.mdP
    rw [spFrom_no hb v6 hno] at h9
    exact h9
  | succ w ih =>
    intro i hw J t hj ff hno
    have hi : i < 36 := by omega
    refine x_iload_n (pc := 16) dX10_from_16 rfl rfl ?_
    refine x_bipush (pc := 17) (v := 36) dX10_from_17 (by decide) ?_
    refine x_icmpn_ge_f (pc := 19) (tgt := 112) (a := i) (b := 36) dX10_from_19 (by decide) (by omega) (by decide) (by omega) ?_
    refine x_aload_n (pc := 22) dX10_from_22 rfl rfl ?_
    refine x_iload_n (pc := 23) dX10_from_23 rfl rfl ?_
    refine x_callV (pc := 24) (As := [.int _]) dX10_from_24 km_X10_isTaken kv_X10_isTaken kl_RX10_307 hM.s rfl rfl (by decide) ⟨Nat.le_refl _, Nat.le_refl _⟩ rfl (Nat.le_of_ble_eq_true rfl) (Nat.le_of_ble_eq_true rfl) (m_isTaken hM hj.2.2.1 v6 hj.2.2.2.2.2.1 (fun a ha => (vb a ha).2.2.1) hi (fun hh => ⟨rfl, rfl, ?_⟩) (fun hf => ⟨rfl, rfl, ?_⟩))
    · skip
      refine x_if_eq_f (pc := 27) (tgt := 33) dX10_from_27 (by decide) (by decide) ?_
      refine x_goto (pc := 30) (tgt := 106) dX10_from_30 (by decide) ?_
      refine x_iinc (pc := 106) (v := nI (i + 1)) (lv' := [(0, .ref M), (1, .int (nI b)), (2, .int (nI (i + 1)))]) dX10_from_106 rfl (nI_1 _) (by decide) rfl ?_
      refine x_goto (pc := 109) (tgt := 16) dX10_from_109 (by decide) ?_
      exact ih (i + 1) (by omega) J t hj ff (fun j hj9 => (Nat.lt_succ_iff_lt_or_eq.mp hj9).elim (hno j) (fun e9 => by subst e9; exact fromP_h hh))
    · skip
      refine x_if_eq_t (pc := 27) (tgt := 33) dX10_from_27 (by decide) (by decide) ?_
      refine x_aload_n (pc := 33) dX10_from_33 rfl rfl ?_
      refine x_iload_n (pc := 34) dX10_from_34 rfl rfl ?_
      refine x_put (pc := 35) dX10_from_35 kf_RX10_92 hM.s rfl (Or.inl kb_10_27) ?_
      have hc2 := hj.setTamer hi
      have ff9 : mdT M I (up2 J M 27 (nI i)) := ff.tr (mdT.fld (by decide))
      refine x_iconst (pc := 38) (v := 1) dX10_from_38 (by decide) ?_
      refine x_istore_n (pc := 39) (lv' := [(0, .ref M), (1, .int (nI b)), (2, .int (nI i)), (3, .int 1)]) dX10_from_39 rfl (by decide) rfl ?_
      refine x_iconst (pc := 40) (v := 0) dX10_from_40 (by decide) ?_
      refine x_istore (pc := 41) (lv' := [(0, .ref M), (1, .int (nI b)), (2, .int (nI i)), (3, .int 1), (4, .int 0)]) dX10_from_41 (by decide) rfl ?_
      refine lm_from1 hi (show b < 6 by omega) hc2 (fun I2 hy h3 g1 => ?_) (fun I2 hx h3 g1 => ?_) (V 8 0) 0 (by omega) _ hc2 mdFr.rf (fun j hj9 => absurd hj9 (by omega))
      · refine lm_fromY hi ?_
        have h9 := K I2 (h.keepT (ff9.tr (mdT.of g1))) (ff9.tr (mdT.of g1)).mdP
        rw [spFrom_of (k := i) hb v6 (fromP_t hf hy) hno hi] at h9
        exact h9
      · exact lm_fromN hi (ih (i + 1) (by omega) I2 i h3 (ff9.tr (mdT.of g1)) (fun j hj9 => (Nat.lt_succ_iff_lt_or_eq.mp hj9).elim (hno j) (fun e9 => by subst e9; exact fromP_c hx)))

set_option maxHeartbeats 4000000 in
set_option maxRecDepth 100000 in
theorem m_from {T : xT} {n : Nat} {sh : Nat → Nat × Nat} {I : xI} {R : xR} {L : xL} {P : xPost} {M : Nat} (hM : xModel sh R M) {V : xV} {B rc : Nat} {ars : Nat → xAR} (h : MDV I M V) (hv : VOK V B) (hB : B < 800000) (hr : mRings I M rc ars) (hV6 : V 8 6 ≤ rc) {x : Int32} (K : ∀ I2 : xI, MDV I2 M V → mdP M I I2 → P (n, sh, 0, 0) I2 R L (some (.int (spFrom V (rgVal ars V) x))))  : XM T zX10_from 6 [.ref M, .int x] n sh I R L P := by
  obtain ⟨v6, v12, v10, vb, vf, vw, vm, vta, vte, vod, vrg, vdi⟩ := id hv
  refine x_aload_n (pc := 0) dX10_from_0 rfl rfl ?_
  refine x_iload_n (pc := 1) dX10_from_1 rfl rfl ?_
  refine x_callV (pc := 2) (As := [.int _]) dX10_from_2 km_X10_isBeast kv_X10_isBeast kl_RX10_246 hM.s rfl rfl (by decide) ⟨Nat.le_refl _, Nat.le_refl _⟩ rfl (Nat.le_of_ble_eq_true rfl) (Nat.le_of_ble_eq_true rfl) (m_isBeast hM h.1 v6 (fun k hk ek => ⟨rfl, rfl, ?_⟩) (fun h1 => ⟨rfl, rfl, ?_⟩))
  · skip
    subst ek
    refine x_if_ne_t (pc := 5) (tgt := 10) dX10_from_5 (by decide) (by decide) ?_
    refine x_aload_n (pc := 10) dX10_from_10 rfl rfl ?_
    refine x_callV (pc := 11) (As := []) dX10_from_11 km_X10_asIs kv_X10_asIs kl_RX10_338 hM.s rfl rfl (by decide) ⟨Nat.le_refl _, Nat.le_refl _⟩ rfl (Nat.le_of_ble_eq_true rfl) (Nat.le_of_ble_eq_true rfl) (m_asIs hM (fun I2 k1 k2 k3 k4 k5 k6 k7 => ⟨rfl, rfl, ?_⟩))
    refine x_iconst (pc := 14) (v := 0) dX10_from_14 (by decide) ?_
    refine x_istore_n (pc := 15) (lv' := [(0, .ref M), (1, .int (nI k)), (2, .int 0)]) dX10_from_15 rfl (by decide) rfl ?_
    exact lm_from hM hv (h.keepT (mdT.asIs k1 k2)) hk (fun I3 h3 f3 => K I3 h3 ((mdT.asIs k1 k2).mdP.tr f3)) 36 0 (by omega) I2 (V 8 1) (h.toMS hM hv hB hr hV6 k1 k2 k3 k4 k5 k6 k7) mdT.rf (fun j hj => absurd hj (by omega))
  · skip
    refine x_if_ne_f (pc := 5) (tgt := 10) dX10_from_5 (by decide) (by decide) ?_
    refine x_iconst (pc := 8) (v := -1) dX10_from_8 (by decide) ?_
    refine x_ireturn (pc := 9) dX10_from_9 ⟨_, rfl, rfl⟩ ⟨Nat.le_refl _, Nat.le_refl _⟩ ?_
    have h9 := K I h mdP.rf
    rw [spFrom_n h1] at h9
    exact h9

