/-! ===== sit: the reference ===== -/
/-- nothing but trial marks has been altered -/
def mdT (M : Nat) (I J : xI) : Prop := (∀ a, a ≠ M → a ≠ M + 16 → a ≠ M + 17 → a ≠ M + 18 → J a = I a) ∧ ∀ k, (k < 27 ∨ 37 < k) → J M k = I M k
theorem mdT.rf {M : Nat} {I : xI} : mdT M I I := ⟨fun _ _ _ _ _ => rfl, fun _ _ => rfl⟩
theorem mdT.tr {M : Nat} {I J J' : xI} (h : mdT M I J) (h' : mdT M J J') : mdT M I J' := ⟨fun a p1 p2 p3 p4 => (h'.1 a p1 p2 p3 p4).trans (h.1 a p1 p2 p3 p4), fun k p => (h'.2 k p).trans (h.2 k p)⟩
theorem mdT.of2 {M : Nat} {I J : xI} (h : mdFr2 M I J) : mdT M I J := ⟨fun a p1 p2 _ p4 => h.1 a p1 p4 p2, fun k p => h.2 k (by omega) (by omega) (by omega)⟩
theorem mdT.of {M : Nat} {I J : xI} (h : mdFr M I J) : mdT M I J := ⟨fun a p1 _ _ p4 => h.1 a p1 p4, fun k p => h.2 k (by omega)⟩
theorem mdT.fld {M k : Nat} {x : Int32} {I : xI} (hk : 27 ≤ k ∧ k ≤ 37) : mdT M I (up2 I M k x) := ⟨fun a p1 _ _ _ => up2_row p1, fun j p => up2_k (by omega)⟩
theorem mdT.kd {M k : Nat} {x : Int32} {I : xI} : mdT M I (up2 I (M + 17) k x) := ⟨fun a _ _ p3 _ => up2_row p3, fun j p => by rw [up2_row (by omega)]⟩
theorem mdT.asIs {M : Nat} {I I2 : xI} (k1 : ∀ a, a ≠ M → a ≠ M + 16 → a ≠ M + 17 → I2 a = I a) (k2 : ∀ k, k ≠ 27 → k ≠ 28 → k ≠ 29 → I2 M k = I M k) : mdT M I I2 := ⟨fun a p1 p2 p3 _ => k1 a p1 p2 p3, fun k p => k2 k (by omega) (by omega) (by omega)⟩
theorem mdT.mdP {M : Nat} {I J : xI} (h : mdT M I J) : mdP M I J := ⟨fun a p => h.1 a (by omega) (by omega) (by omega) (by omega), fun k p => h.2 k (by omega)⟩
theorem MDV.keepT {I J : xI} {M : Nat} {V : xV} (h : MDV I M V) (f : mdT M I J) : MDV J M V := h.keep (fun k hk => f.2 k (by omega)) (fun j hj => f.1 _ (by omega) (by omega) (by omega) (by omega))

set_option maxHeartbeats 4000000 in
set_option maxRecDepth 100000 in
theorem lm_sit0 {T : xT} {n : Nat} {sh : Nat → Nat × Nat} {I : xI} {R : xR} {L : xL} {P : xPost} {M nb q : Nat} (hM : xModel sh R M) {ce sto : Nat → Nat} (hnb : I M 0 = nI nb) (hn6 : nb ≤ 6) (hc : ∀ i, i < nb → I (M + 16) i = nI (ce i)) (hs : ∀ i, i < nb → I (M + 4) i = nI (sto i)) (hce : ∀ i, i < nb → ce i < 36 ∧ sto i < 36) (K : X T zX10_sit 6 0 0 P 55 [(0, .ref M), (1, .int (nI q)), (2, .int 0)] [] (n, sh, 0, 0) I R L)  : ∀ (w i : Nat), i + w = nb → X T zX10_sit 6 0 0 P 16 [(0, .ref M), (1, .int (nI q)), (2, .int 0), (3, .int (nI i))] [] (n, sh, 0, 0) (I) R L := by
  intro w
  induction w with
  | zero =>
    intro i hw
    have hz : i = nb := by omega
    refine x_iload_n (pc := 16) dX10_sit_16 rfl rfl ?_
    refine x_aload_n (pc := 17) dX10_sit_17 rfl rfl ?_
    refine x_get (pc := 18) dX10_sit_18 kf_RX10_7 hM.s rfl ?_
    rw [hnb]
    refine x_icmpn_ge_t (pc := 21) (tgt := 55) (a := i) (b := nb) dX10_sit_21 (by decide) (by omega) (by omega) (by omega) ?_
    exact X.keep [0, 1, 2] rfl K
  | succ w ih =>
    intro i hw
    have hi : i < nb := by omega
    refine x_iload_n (pc := 16) dX10_sit_16 rfl rfl ?_
    refine x_aload_n (pc := 17) dX10_sit_17 rfl rfl ?_
    refine x_get (pc := 18) dX10_sit_18 kf_RX10_7 hM.s rfl ?_
    rw [hnb]
    refine x_icmpn_ge_f (pc := 21) (tgt := 55) (a := i) (b := nb) dX10_sit_21 (by decide) (by omega) (by omega) (by omega) ?_
    refine x_iload_n (pc := 24) dX10_sit_24 rfl rfl ?_
    refine x_if_eq_t (pc := 25) (tgt := 47) dX10_sit_25 (by decide) (rfl) ?_
    refine x_iconst (pc := 47) (v := 0) dX10_sit_47 (by decide) ?_
    refine x_istore_n (pc := 48) (lv' := [(0, .ref M), (1, .int (nI q)), (2, .int 0), (3, .int (nI i))]) dX10_sit_48 rfl (by decide) rfl ?_
    refine x_iinc (pc := 49) (v := nI (i + 1)) (lv' := [(0, .ref M), (1, .int (nI q)), (2, .int 0), (3, .int (nI (i + 1)))]) dX10_sit_49 rfl (nI_1 _) (by decide) rfl ?_
    refine x_goto (pc := 52) (tgt := 16) dX10_sit_52 (by decide) ?_
    exact ih (i + 1) (by omega)

set_option maxHeartbeats 4000000 in
set_option maxRecDepth 100000 in
theorem lm_sit1 {T : xT} {n : Nat} {sh : Nat → Nat × Nat} {I : xI} {R : xR} {L : xL} {P : xPost} {M nb q : Nat} (hM : xModel sh R M) {ce sto : Nat → Nat} (hnb : I M 0 = nI nb) (hn6 : nb ≤ 6) (hc : ∀ i, i < nb → I (M + 16) i = nI (ce i)) (hs : ∀ i, i < nb → I (M + 4) i = nI (sto i)) (hce : ∀ i, i < nb → ce i < 36 ∧ sto i < 36) (K1 : (∀ i, i < nb → ce i = sto i) → X T zX10_sit 6 0 0 P 55 [(0, .ref M), (1, .int (nI q)), (2, .int 1)] [] (n, sh, 0, 0) I R L) (K2 : (∃ i, i < nb ∧ ¬ ce i = sto i) → X T zX10_sit 6 0 0 P 55 [(0, .ref M), (1, .int (nI q)), (2, .int 0)] [] (n, sh, 0, 0) I R L)  : ∀ (w i : Nat), i + w = nb → (∀ j, j < i → ce j = sto j) → X T zX10_sit 6 0 0 P 16 [(0, .ref M), (1, .int (nI q)), (2, .int 1), (3, .int (nI i))] [] (n, sh, 0, 0) (I) R L := by
  intro w
  induction w with
  | zero =>
    intro i hw hy
    have hz : i = nb := by omega
    refine x_iload_n (pc := 16) dX10_sit_16 rfl rfl ?_
    refine x_aload_n (pc := 17) dX10_sit_17 rfl rfl ?_
    refine x_get (pc := 18) dX10_sit_18 kf_RX10_7 hM.s rfl ?_
    rw [hnb]
    refine x_icmpn_ge_t (pc := 21) (tgt := 55) (a := i) (b := nb) dX10_sit_21 (by decide) (by omega) (by omega) (by omega) ?_
    exact X.keep [0, 1, 2] rfl (K1 (fun j hj => hy j (by omega)))
  | succ w ih =>
    intro i hw hy
    have hi : i < nb := by omega
    refine x_iload_n (pc := 16) dX10_sit_16 rfl rfl ?_
    refine x_aload_n (pc := 17) dX10_sit_17 rfl rfl ?_
    refine x_get (pc := 18) dX10_sit_18 kf_RX10_7 hM.s rfl ?_
    rw [hnb]
    refine x_icmpn_ge_f (pc := 21) (tgt := 55) (a := i) (b := nb) dX10_sit_21 (by decide) (by omega) (by omega) (by omega) ?_
    refine x_iload_n (pc := 24) dX10_sit_24 rfl rfl ?_
    refine x_if_eq_f (pc := 25) (tgt := 47) dX10_sit_25 (by decide) (by decide) ?_
    refine x_aload_n (pc := 28) dX10_sit_28 rfl rfl ?_
    refine x_getr (pc := 29) dX10_sit_29 kf_RX10_101 hM.s rfl hM.f15 ?_
    refine x_iload_n (pc := 32) dX10_sit_32 rfl rfl ?_
    refine x_ialdn (pc := 33) (a := i) dX10_sit_33 hM.s15 (by omega) (by omega) ?_
    rw [hc i hi]
    have hci := hce i hi
    refine x_aload_n (pc := 34) dX10_sit_34 rfl rfl ?_
    refine x_getr (pc := 35) dX10_sit_35 kf_RX10_32 hM.s rfl hM.f3 ?_
    refine x_iload_n (pc := 38) dX10_sit_38 rfl rfl ?_
    refine x_ialdn (pc := 39) (a := i) dX10_sit_39 hM.s3 (by omega) (by omega) ?_
    rw [hs i hi]
    refine x_icmpn_ne (pc := 40) (tgt := 47) (a := (ce i)) (b := (sto i)) dX10_sit_40 (by decide) (by omega) (by omega) (fun c40 => ?_) (fun c40 => ?_)
    · skip
      refine x_iconst (pc := 47) (v := 0) dX10_sit_47 (by decide) ?_
      refine x_istore_n (pc := 48) (lv' := [(0, .ref M), (1, .int (nI q)), (2, .int 0), (3, .int (nI i))]) dX10_sit_48 rfl (by decide) rfl ?_
      refine x_iinc (pc := 49) (v := nI (i + 1)) (lv' := [(0, .ref M), (1, .int (nI q)), (2, .int 0), (3, .int (nI (i + 1)))]) dX10_sit_49 rfl (nI_1 _) (by decide) rfl ?_
      refine x_goto (pc := 52) (tgt := 16) dX10_sit_52 (by decide) ?_
      exact lm_sit0 hM hnb hn6 hc hs hce (K2 ⟨i, hi, c40⟩) w (i + 1) (by omega)
    · skip
      refine x_iconst (pc := 43) (v := 1) dX10_sit_43 (by decide) ?_
      refine x_goto (pc := 44) (tgt := 48) dX10_sit_44 (by decide) ?_
      refine x_istore_n (pc := 48) (lv' := [(0, .ref M), (1, .int (nI q)), (2, .int 1), (3, .int (nI i))]) dX10_sit_48 rfl (by decide) rfl ?_
      refine x_iinc (pc := 49) (v := nI (i + 1)) (lv' := [(0, .ref M), (1, .int (nI q)), (2, .int 1), (3, .int (nI (i + 1)))]) dX10_sit_49 rfl (nI_1 _) (by decide) rfl ?_
      refine x_goto (pc := 52) (tgt := 16) dX10_sit_52 (by decide) ?_
      exact ih (i + 1) (by omega) (fun j hj9 => (Nat.lt_succ_iff_lt_or_eq.mp hj9).elim (hy j) (fun e9 => by subst e9; first | exact c40 | exact Decidable.not_not.mp c40))

set_option maxHeartbeats 4000000 in
set_option maxRecDepth 100000 in
theorem lm_sitY {T : xT} {n : Nat} {sh : Nat → Nat × Nat} {I : xI} {R : xR} {L : xL} {P : xPost} {M q : Nat} (K : P (n, sh, 0, 0) I R L (some (.int (nI q))))  :  X T zX10_sit 6 0 0 P 55 [(0, .ref M), (1, .int (nI q)), (2, .int 1)] [] (n, sh, 0, 0) (I) R L := by
  refine x_iload_n (pc := 55) dX10_sit_55 rfl rfl ?_
  refine x_if_eq_f (pc := 56) (tgt := 61) dX10_sit_56 (by decide) (by decide) ?_
  refine x_iload_n (pc := 59) dX10_sit_59 rfl rfl ?_
  refine x_ireturn (pc := 60) dX10_sit_60 ⟨_, rfl, rfl⟩ ⟨Nat.le_refl _, Nat.le_refl _⟩ ?_
  exact K

set_option maxHeartbeats 4000000 in
set_option maxRecDepth 100000 in
theorem lm_sitN {T : xT} {n : Nat} {sh : Nat → Nat × Nat} {I : xI} {R : xR} {L : xL} {P : xPost} {M nb ta te lo : Nat} {ki ve ce sto hu : Nat → Nat} {o : Option xAR} {q : Nat} (hq : q < 61) (hj : MS sh R I M nb ki ve ce sto hu ta te lo o) (ht1 : te + 1 < 1000000) (K : ∀ I2 : xI, MS sh R I2 M nb ki ve (tenthF nb ki ve ce sto hu ta te lo (lnO o) nb) sto hu ta (te + 1) lo o → mdFr2 M I I2 → X T zX10_sit 6 0 0 P 6 [(0, .ref M), (1, .int (nI (q + 1)))] [] (n, sh, 0, 0) I2 R L)  :  X T zX10_sit 6 0 0 P 55 [(0, .ref M), (1, .int (nI q)), (2, .int 0)] [] (n, sh, 0, 0) (I) R L := by
  have hM := hj.1
  refine x_iload_n (pc := 55) dX10_sit_55 rfl rfl ?_
  refine x_if_eq_t (pc := 56) (tgt := 61) dX10_sit_56 (by decide) (rfl) ?_
  refine x_aload_n (pc := 61) dX10_sit_61 rfl rfl ?_
  refine x_callV (pc := 62) (As := []) dX10_sit_62 km_X10_goTenth kv_X10_goTenth kl_RX10_344 hM.s rfl rfl (by decide) ⟨Nat.le_refl _, Nat.le_refl _⟩ rfl (Nat.le_of_ble_eq_true rfl) (Nat.le_of_ble_eq_true rfl) (m_goTenth hj (by omega) (fun I2 h3 f2 => ⟨rfl, rfl, ?_⟩))
  refine x_iinc (pc := 65) (v := nI (q + 1)) (lv' := [(0, .ref M), (1, .int (nI (q + 1))), (2, .int 0)]) dX10_sit_65 rfl (nI_1 _) (by decide) rfl ?_
  refine x_goto (pc := 68) (tgt := 6) dX10_sit_68 (by decide) ?_
  exact X.keep [0, 1] rfl (K I2 h3 f2)

set_option maxHeartbeats 4000000 in
set_option maxRecDepth 100000 in
theorem lm_sit {T : xT} {n : Nat} {sh : Nat → Nat × Nat} {I : xI} {R : xR} {L : xL} {P : xPost} {M : Nat} (hM : xModel sh R M) {V : xV} {B : Nat} {ars : Nat → xAR} (hv : VOK V B) (hB : B < 800000) (h : MDV I M V) (K : ∀ I2 : xI, MDV I2 M V → mdP M I I2 → P (n, sh, 0, 0) I2 R L (some (.int (spSit V (rgVal ars V)))))  : ∀ (w i : Nat), i + w = 61 → ∀ (J : xI), MS sh R J M (V 8 0) (V 0) (V 1) (goF V (rgVal ars V) (V 8 1) i) (V 3) (V 4) (V 8 1) (V 8 2 + i) 0 (rgVal ars V) → mdT M I J → (∀ j, j < i → sitP V (rgVal ars V) j = false) → X T zX10_sit 6 0 0 P 6 [(0, .ref M), (1, .int (nI i))] [] (n, sh, 0, 0) (J) R L := by
  obtain ⟨v6, v12, v10, vb, vf, vw, vm, vta, vte, vod, vrg, vdi⟩ := id hv
  intro w
  induction w with
  | zero =>
    intro i hw J hj ff hno
    have hz : i = 61 := by omega
    refine x_iload_n (pc := 6) dX10_sit_6 rfl rfl ?_
    refine x_bipush (pc := 7) (v := 61) dX10_sit_7 (by decide) ?_
    refine x_icmpn_ge_t (pc := 9) (tgt := 71) (a := i) (b := 61) dX10_sit_9 (by decide) (by omega) (by decide) (by omega) ?_
    refine x_bipush (pc := 71) (v := -5) dX10_sit_71 (by decide) ?_
    refine x_ireturn (pc := 73) dX10_sit_73 ⟨_, rfl, rfl⟩ ⟨Nat.le_refl _, Nat.le_refl _⟩ ?_
    rw [hz] at hno
    have h9 := K J (h.keepT ff) ff.mdP
    rw [spSit_no hno] at h9
    exact h9
  | succ w ih =>
    intro i hw J hj ff hno
    have hi : i < 61 := by omega
    refine x_iload_n (pc := 6) dX10_sit_6 rfl rfl ?_
    refine x_bipush (pc := 7) (v := 61) dX10_sit_7 (by decide) ?_
    refine x_icmpn_ge_f (pc := 9) (tgt := 71) (a := i) (b := 61) dX10_sit_9 (by decide) (by omega) (by decide) (by omega) ?_
    refine x_iconst (pc := 12) (v := 1) dX10_sit_12 (by decide) ?_
    refine x_istore_n (pc := 13) (lv' := [(0, .ref M), (1, .int (nI i)), (2, .int 1)]) dX10_sit_13 rfl (by decide) rfl ?_
    refine x_iconst (pc := 14) (v := 0) dX10_sit_14 (by decide) ?_
    refine x_istore_n (pc := 15) (lv' := [(0, .ref M), (1, .int (nI i)), (2, .int 1), (3, .int 0)]) dX10_sit_15 rfl (by decide) rfl ?_
    refine lm_sit1 hM hj.2.2.1 v6 hj.2.2.2.2.2.1 hj.2.2.2.2.2.2.1 (fun a ha => (hj.2.2.2.2.2.2.2.2.1 a ha).2.2.imp id And.left) (fun hy => ?_) (fun hx => ?_) (V 8 0) 0 (by omega) (fun j hj9 => absurd hj9 (by omega))
    · refine lm_sitY ?_
      have h9 := K J (h.keepT ff) ff.mdP
      rw [spSit_of (k := i) (decide_eq_true hy) hno hi] at h9
      exact h9
    · exact lm_sitN hi hj (by omega) (fun I2 h3 f2 => ih (i + 1) (by omega) I2 h3 (ff.tr (mdT.of2 f2)) (fun j hj9 => (Nat.lt_succ_iff_lt_or_eq.mp hj9).elim (hno j) (fun e9 => by subst e9; exact decide_eq_false (fun q => hx.elim (fun a ha => ha.2 (q a ha.1))))))

set_option maxHeartbeats 4000000 in
set_option maxRecDepth 100000 in
theorem m_sit {T : xT} {n : Nat} {sh : Nat → Nat × Nat} {I : xI} {R : xR} {L : xL} {P : xPost} {M : Nat} (hM : xModel sh R M) {V : xV} {B rc : Nat} {ars : Nat → xAR} (h : MDV I M V) (hv : VOK V B) (hB : B < 800000) (hr : mRings I M rc ars) (hV6 : V 8 6 ≤ rc) (K : ∀ I2 : xI, MDV I2 M V → mdP M I I2 → P (n, sh, 0, 0) I2 R L (some (.int (spSit V (rgVal ars V)))))  : XM T zX10_sit 6 [.ref M] n sh I R L P := by
  refine x_aload_n (pc := 0) dX10_sit_0 rfl rfl ?_
  refine x_callV (pc := 1) (As := []) dX10_sit_1 km_X10_asIs kv_X10_asIs kl_RX10_338 hM.s rfl rfl (by decide) ⟨Nat.le_refl _, Nat.le_refl _⟩ rfl (Nat.le_of_ble_eq_true rfl) (Nat.le_of_ble_eq_true rfl) (m_asIs hM (fun I2 k1 k2 k3 k4 k5 k6 k7 => ⟨rfl, rfl, ?_⟩))
  refine x_iconst (pc := 4) (v := 0) dX10_sit_4 (by decide) ?_
  refine x_istore_n (pc := 5) (lv' := [(0, .ref M), (1, .int 0)]) dX10_sit_5 rfl (by decide) rfl ?_
  exact lm_sit hM hv hB (h.keepT (mdT.asIs k1 k2)) (fun I3 h3 f3 => K I3 h3 ((mdT.asIs k1 k2).mdP.tr f3)) 61 0 (by omega) I2 (h.toMS hM hv hB hr hV6 k1 k2 k3 k4 k5 k6 k7) mdT.rf (fun j hj => absurd hj (by omega))

