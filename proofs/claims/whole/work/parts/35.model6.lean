/-! ===== the reference: a tenth, walks ===== -/
theorem dCome_stay {nb : Nat} {ce : Nat → Nat} {into : Bool} {ta goal own code : Nat} (hc : ¬ code = 0) (h : (dCome nb ce into ta goal own code).1 = 0) : (dCome nb ce into ta goal own code).2 = own := by
  unfold dCome at h ⊢
  split
  · rfl
  · rename_i q
    rw [if_neg q] at h
    exact absurd h hc
theorem st_ite {own : Nat} {c : Prop} [Decidable c] {a b : Nat × Nat} (ha : a.1 = 0 → a.2 = own) (hb : b.1 = 0 → b.2 = own) : (if c then a else b).1 = 0 → (if c then a else b).2 = own := by
  split
  · exact ha
  · exact hb
theorem deedN_stay {nb ta te lo : Nat} {ki ve ce sto hu : Nat → Nat} {LN : xLN} {bi : Nat} : (deedN nb ki ve ce sto hu ta te lo LN bi).1 = 0 → (deedN nb ki ve ce sto hu ta te lo LN bi).2 = ce bi := by
  unfold deedN deedF yDeed
  have h1 : ∀ z : Nat, ((1, z) : Nat × Nat).1 = 0 → ((1, z) : Nat × Nat).2 = ce bi := fun z h => absurd h (by show ¬ 1 = 0; decide)
  have h2 : ∀ into goal code, ¬ code = 0 → (dCome nb ce into ta goal (ce bi) code).1 = 0 → (dCome nb ce into ta goal (ce bi) code).2 = ce bi := fun _ _ _ hc => dCome_stay hc
  exact st_ite (fun _ => rfl) (st_ite (st_ite (st_ite (st_ite (h2 _ _ _ (by decide)) (fun _ => rfl)) (h1 _)) (st_ite (st_ite (h2 _ _ _ (by decide)) (fun _ => rfl)) (fun _ => rfl))) (st_ite (st_ite (h2 _ _ _ (by decide)) (h2 _ _ _ (by decide))) (st_ite (st_ite (fun _ => rfl) (h1 _)) (fun _ => rfl))))
def mdFr2 (M : Nat) (I I' : xI) : Prop := (∀ a, a ≠ M → a ≠ M + 18 → a ≠ M + 16 → I' a = I a) ∧ ∀ k, (k < 33 ∨ 37 < k) → k ≠ 27 → k ≠ 28 → I' M k = I M k
theorem mdFr2.rf {M : Nat} {I : xI} : mdFr2 M I I := ⟨fun _ _ _ _ => rfl, fun _ _ _ _ => rfl⟩
theorem mdFr2.tr {M : Nat} {I I' I'' : xI} (h : mdFr2 M I I') (h' : mdFr2 M I' I'') : mdFr2 M I I'' := ⟨fun a p1 p2 p3 => (h'.1 a p1 p2 p3).trans (h.1 a p1 p2 p3), fun k p1 p2 p3 => (h'.2 k p1 p2 p3).trans (h.2 k p1 p2 p3)⟩
theorem mdFr2.of {M : Nat} {I I' : xI} (h : mdFr M I I') : mdFr2 M I I' := ⟨fun a p1 p2 _ => h.1 a p1 p2, fun k p _ _ => h.2 k p⟩
theorem mdFr2.cell {M i : Nat} {x : Int32} {I : xI} : mdFr2 M I (up2 I (M + 16) i x) := ⟨fun a p1 p2 p3 => up2_row p3, fun k _ _ _ => by rw [up2_a (by omega)]⟩
theorem mdFr2.fld {M k : Nat} {x : Int32} {I : xI} (hk : k = 27 ∨ k = 28) : mdFr2 M I (up2 I M k x) := ⟨fun a p1 p2 p3 => up2_row p1, fun j p1 p2 p3 => up2_k (by omega)⟩
theorem MS.setCell {sh : Nat → Nat × Nat} {R : xR} {I : xI} {M nb ta te lo : Nat} {ki ve ce sto hu : Nat → Nat} {o : Option xAR} {i x : Nat} (h : MS sh R I M nb ki ve ce sto hu ta te lo o) (hx : x < 36) : MS sh R (up2 I (M + 16) i (nI x)) M nb ki ve (fun j => if j = i then x else ce j) sto hu ta te lo o := by
  obtain ⟨a1, a2, a3, a4, a5, a6, a7, a8, a9, a10, a11, a12, a13, a14, a15, a16⟩ := h
  have k : ∀ j, j ≠ 16 → up2 I (M + 16) i (nI x) (M + j) = I (M + j) := fun j p => up2_row (by omega)
  have k0 : up2 I (M + 16) i (nI x) M = I M := up2_row (by omega)
  refine ⟨a1, a2, by rw [k0]; exact a3, fun j hj => by rw [k 17 (by omega)]; exact a4 j hj, fun j hj => by rw [k 2 (by omega)]; exact a5 j hj, fun j hj => ?_, fun j hj => by rw [k 4 (by omega)]; exact a7 j hj, fun j hj => by rw [k 5 (by omega)]; exact a8 j hj, fun j hj => ?_, by rw [k0]; exact a10, a11, by rw [k0]; exact a12, a13, by rw [k0]; exact a14, a15, a16.keep (by rw [k0]) (fun j p1 p2 => k j (by omega))⟩
  · show up2 I (M + 16) i (nI x) (M + 16) j = nI (if j = i then x else ce j)
    by_cases q : j = i
    · rw [q, up2_s, if_pos rfl]
    · rw [up2_k q, if_neg q]
      exact a6 j hj
  · obtain ⟨b1, b2, b3, b4, b5⟩ := a9 j hj
    refine ⟨b1, b2, ?_, b4, b5⟩
    show (if j = i then x else ce j) < 36
    split
    · exact hx
    · exact b3
theorem MS.setTenth {sh : Nat → Nat × Nat} {R : xR} {I : xI} {M nb ta te lo : Nat} {ki ve ce sto hu : Nat → Nat} {o : Option xAR} {t : Nat} (h : MS sh R I M nb ki ve ce sto hu ta te lo o) (ht : t < 1000000) : MS sh R (up2 I M 28 (nI t)) M nb ki ve ce sto hu ta t lo o := by
  obtain ⟨a1, a2, a3, a4, a5, a6, a7, a8, a9, a10, a11, a12, a13, a14, a15, a16⟩ := h
  have k : ∀ j, 0 < j → up2 I M 28 (nI t) (M + j) = I (M + j) := fun j p => up2_row (by omega)
  exact ⟨a1, a2, by rw [up2_k (by decide)]; exact a3, fun i hi => by rw [k 17 (by omega)]; exact a4 i hi, fun i hi => by rw [k 2 (by omega)]; exact a5 i hi, fun i hi => by rw [k 16 (by omega)]; exact a6 i hi, fun i hi => by rw [k 4 (by omega)]; exact a7 i hi, fun i hi => by rw [k 5 (by omega)]; exact a8 i hi, a9, by rw [up2_k (by decide)]; exact a10, a11, up2_s, ht, by rw [up2_k (by decide)]; exact a14, a15, a16.keep (up2_k (by decide)) (fun j p1 p2 => k j (by omega))⟩
theorem MS.setTamer {sh : Nat → Nat × Nat} {R : xR} {I : xI} {M nb ta te lo : Nat} {ki ve ce sto hu : Nat → Nat} {o : Option xAR} {t : Nat} (h : MS sh R I M nb ki ve ce sto hu ta te lo o) (ht : t < 36) : MS sh R (up2 I M 27 (nI t)) M nb ki ve ce sto hu t te lo o := by
  obtain ⟨a1, a2, a3, a4, a5, a6, a7, a8, a9, a10, a11, a12, a13, a14, a15, a16⟩ := h
  have k : ∀ j, 0 < j → up2 I M 27 (nI t) (M + j) = I (M + j) := fun j p => up2_row (by omega)
  exact ⟨a1, a2, by rw [up2_k (by decide)]; exact a3, fun i hi => by rw [k 17 (by omega)]; exact a4 i hi, fun i hi => by rw [k 2 (by omega)]; exact a5 i hi, fun i hi => by rw [k 16 (by omega)]; exact a6 i hi, fun i hi => by rw [k 4 (by omega)]; exact a7 i hi, fun i hi => by rw [k 5 (by omega)]; exact a8 i hi, a9, up2_s, ht, by rw [up2_k (by decide)]; exact a12, a13, by rw [up2_k (by decide)]; exact a14, a15, a16.keep (up2_k (by decide)) (fun j p1 p2 => k j (by omega))⟩
set_option maxHeartbeats 4000000 in
set_option maxRecDepth 100000 in
theorem lm_goTenth {T : xT} {n : Nat} {sh : Nat → Nat × Nat} {I : xI} {R : xR} {L : xL} {P : xPost} {M nb ta te lo : Nat} {ki ve ce sto hu : Nat → Nat} {o : Option xAR} (h : MS sh R I M nb ki ve ce sto hu ta te lo o) (ht1 : te + 1 < 1000000) (K : ∀ I2 : xI, MS sh R I2 M nb ki ve (tenthF nb ki ve ce sto hu ta te lo (lnO o) nb) sto hu ta (te + 1) lo o → mdFr2 M I I2 → P (n, sh, 0, 0) I2 R L none) : ∀ (w i : Nat), i + w = nb → ∀ (J : xI), MS sh R J M nb ki ve (tenthF nb ki ve ce sto hu ta te lo (lnO o) i) sto hu ta te lo o → mdFr2 M I J → X T zX10_goTenth 5 0 0 P 2 [(0, .ref M), (1, .int (nI i))] [] (n, sh, 0, 0) (J) R L := by
  have hM := h.1
  have hn6 := h.2.1
  intro w
  induction w with
  | zero =>
    intro i hw J hj fj
    have hz : i = nb := by omega
    refine x_iload_n (pc := 2) dX10_goTenth_2 rfl rfl ?_
    refine x_aload_n (pc := 3) dX10_goTenth_3 rfl rfl ?_
    refine x_get (pc := 4) dX10_goTenth_4 kf_RX10_7 hM.s rfl ?_
    rw [hj.2.2.1]
    refine x_icmpn_ge_t (pc := 7) (tgt := 45) (a := i) (b := nb) dX10_goTenth_7 (by decide) (by omega) (by omega) (by omega) ?_
    refine x_aload_n (pc := 45) dX10_goTenth_45 rfl rfl ?_
    refine x_dup (pc := 46) dX10_goTenth_46 rfl ?_
    refine x_get (pc := 47) dX10_goTenth_47 kf_RX10_95 hM.s rfl ?_
    rw [hj.2.2.2.2.2.2.2.2.2.2.2.1]
    refine x_iconst (pc := 50) (v := 1) dX10_goTenth_50 (by decide) ?_
    refine x_iaddn (pc := 51) (a := te) (b := 1) dX10_goTenth_51 ?_
    refine x_put (pc := 52) dX10_goTenth_52 kf_RX10_95 hM.s rfl (Or.inl kb_10_28) ?_
    refine x_return (pc := 55) dX10_goTenth_55 rfl ⟨Nat.le_refl _, Nat.le_refl _⟩ ?_
    rw [hz] at hj
    exact K _ (hj.setTenth ht1) (fj.tr (mdFr2.fld (Or.inr rfl)))
  | succ w ih =>
    intro i hw J hj fj
    have hi : i < nb := by omega
    refine x_iload_n (pc := 2) dX10_goTenth_2 rfl rfl ?_
    refine x_aload_n (pc := 3) dX10_goTenth_3 rfl rfl ?_
    refine x_get (pc := 4) dX10_goTenth_4 kf_RX10_7 hM.s rfl ?_
    rw [hj.2.2.1]
    refine x_icmpn_ge_f (pc := 7) (tgt := 45) (a := i) (b := nb) dX10_goTenth_7 (by decide) (by omega) (by omega) (by omega) ?_
    refine x_aload_n (pc := 10) dX10_goTenth_10 rfl rfl ?_
    refine x_iload_n (pc := 11) dX10_goTenth_11 rfl rfl ?_
    refine x_callV (pc := 12) (As := [.int _]) dX10_goTenth_12 km_X10_doesOf kv_X10_doesOf kl_RX10_341 hM.s rfl rfl (by decide) ⟨Nat.le_refl _, Nat.le_refl _⟩ rfl (Nat.le_of_ble_eq_true rfl) (Nat.le_of_ble_eq_true rfl) (m_doesOf hj hi (fun I2 g1 g3 => ⟨rfl, rfl, ?_⟩))
    have h2 := hj.keep g1
    have dl := deedN_lt (nb := nb) (ki := ki) (ve := ve) (ce := tenthF nb ki ve ce sto hu ta te lo (lnO o) i) (sto := sto) (hu := hu) (ta := ta) (te := te) (lo := lo) (LN := lnO o) (bi := i) ((hj.2.2.2.2.2.2.2.2.1 i hi).2.2.1)
    have dlt : (deedN nb ki ve (tenthF nb ki ve ce sto hu ta te lo (lnO o) i) sto hu ta te lo (lnO o) i).1 < 4 := deedN_code
    refine x_istore_n (pc := 15) (lv' := [(0, .ref M), (1, .int (nI i)), (2, .int (nI (deedN nb ki ve (tenthF nb ki ve ce sto hu ta te lo (lnO o) i) sto hu ta te lo (lnO o) i).1))]) dX10_goTenth_15 rfl (by decide) rfl ?_
    refine x_aload_n (pc := 16) dX10_goTenth_16 rfl rfl ?_
    refine x_getr (pc := 17) dX10_goTenth_17 kf_RX10_101 hM.s rfl hM.f15 ?_
    refine x_iload_n (pc := 20) dX10_goTenth_20 rfl rfl ?_
    refine x_iload_n (pc := 21) dX10_goTenth_21 rfl rfl ?_
    refine x_ifn_ne (pc := 22) (tgt := 34) (a := (deedN nb ki ve (tenthF nb ki ve ce sto hu ta te lo (lnO o) i) sto hu ta te lo (lnO o) i).1) dX10_goTenth_22 (by decide) (by omega) (fun c22 => ?_) (fun c22 => ?_)
    · skip
      refine x_aload_n (pc := 34) dX10_goTenth_34 rfl rfl ?_
      refine x_get (pc := 35) dX10_goTenth_35 kf_RX10_123 hM.s rfl ?_
      rw [g3]
      refine x_iastn (pc := 38) (a := i) dX10_goTenth_38 hM.s15 (by omega) (by omega) ?_
      refine x_iinc (pc := 39) (v := nI (i + 1)) (lv' := [(0, .ref M), (1, .int (nI (i + 1))), (2, .int (nI (deedN nb ki ve (tenthF nb ki ve ce sto hu ta te lo (lnO o) i) sto hu ta te lo (lnO o) i).1))]) dX10_goTenth_39 rfl (nI_1 _) (by decide) rfl ?_
      refine x_goto (pc := 42) (tgt := 2) dX10_goTenth_42 (by decide) ?_
      exact X.keep [0, 1] rfl (ih (i + 1) (by omega) _ (h2.setCell dl) (fj.tr ((mdFr2.of g1).tr mdFr2.cell)))
    · skip
      refine x_aload_n (pc := 25) dX10_goTenth_25 rfl rfl ?_
      refine x_getr (pc := 26) dX10_goTenth_26 kf_RX10_101 hM.s rfl hM.f15 ?_
      refine x_iload_n (pc := 29) dX10_goTenth_29 rfl rfl ?_
      refine x_ialdn (pc := 30) (a := i) dX10_goTenth_30 hM.s15 (by omega) (by omega) ?_
      rw [h2.2.2.2.2.2.1 i hi, ← deedN_stay c22]
      refine x_goto (pc := 31) (tgt := 38) dX10_goTenth_31 (by decide) ?_
      refine x_iastn (pc := 38) (a := i) dX10_goTenth_38 hM.s15 (by omega) (by omega) ?_
      refine x_iinc (pc := 39) (v := nI (i + 1)) (lv' := [(0, .ref M), (1, .int (nI (i + 1))), (2, .int (nI (deedN nb ki ve (tenthF nb ki ve ce sto hu ta te lo (lnO o) i) sto hu ta te lo (lnO o) i).1))]) dX10_goTenth_39 rfl (nI_1 _) (by decide) rfl ?_
      refine x_goto (pc := 42) (tgt := 2) dX10_goTenth_42 (by decide) ?_
      exact X.keep [0, 1] rfl (ih (i + 1) (by omega) _ (h2.setCell dl) (fj.tr ((mdFr2.of g1).tr mdFr2.cell)))

set_option maxHeartbeats 4000000 in
set_option maxRecDepth 100000 in
theorem m_goTenth {T : xT} {n : Nat} {sh : Nat → Nat × Nat} {I : xI} {R : xR} {L : xL} {P : xPost} {M nb ta te lo : Nat} {ki ve ce sto hu : Nat → Nat} {o : Option xAR} (h : MS sh R I M nb ki ve ce sto hu ta te lo o) (ht1 : te + 1 < 1000000) (K : ∀ I2 : xI, MS sh R I2 M nb ki ve (tenthF nb ki ve ce sto hu ta te lo (lnO o) nb) sto hu ta (te + 1) lo o → mdFr2 M I I2 → P (n, sh, 0, 0) I2 R L none) : XM T zX10_goTenth 5 [.ref M] n sh I R L P := by
  refine x_iconst (pc := 0) (v := 0) dX10_goTenth_0 (by decide) ?_
  refine x_istore_n (pc := 1) (lv' := [(0, .ref M), (1, .int 0)]) dX10_goTenth_1 rfl (by decide) rfl ?_
  exact lm_goTenth h ht1 K nb 0 (by omega) I h mdFr2.rf

set_option maxHeartbeats 4000000 in
set_option maxRecDepth 100000 in
theorem m_mayGo {T : xT} {n : Nat} {sh : Nat → Nat × Nat} {I : xI} {R : xR} {L : xL} {P : xPost} {M nb ta te lo : Nat} {ki ve ce sto hu : Nat → Nat} {o : Option xAR} {x : Nat} (h : MS sh R I M nb ki ve ce sto hu ta te lo o) (hx : x < 36) (K1 : (x = ta ∨ (rnd x ta = 1 ∧ held nb ce x = false)) → P (n, sh, 0, 0) I R L (some (.int 1))) (K2 : ¬ (x = ta ∨ (rnd x ta = 1 ∧ held nb ce x = false)) → P (n, sh, 0, 0) I R L (some (.int 0))) : XM T zX10_mayGo 2 [.ref M, .int (nI x)] n sh I R L P := by
  obtain ⟨hM, hn6, hnb, hki, hve, hc, hsto, hhu, hbd, hta, ht, hte, hte2, hlo, hlo2, hln⟩ := id h
  have hce : ∀ i, i < nb → ce i < 36 := fun i hi => (hbd i hi).2.2.1
  refine x_iload_n (pc := 0) dX10_mayGo_0 rfl rfl ?_
  refine x_aload_n (pc := 1) dX10_mayGo_1 rfl rfl ?_
  refine x_get (pc := 2) dX10_mayGo_2 kf_RX10_92 hM.s rfl ?_
  rw [hta]
  refine x_icmpn_eq (pc := 5) (tgt := 29) (a := x) (b := ta) dX10_mayGo_5 (by decide) (by omega) (by omega) (fun c5 => ?_) (fun c5 => ?_)
  · skip
    refine x_iconst (pc := 29) (v := 1) dX10_mayGo_29 (by decide) ?_
    refine x_goto (pc := 30) (tgt := 34) dX10_mayGo_30 (by decide) ?_
    refine x_ireturn (pc := 34) dX10_mayGo_34 ⟨_, rfl, by decide⟩ ⟨Nat.le_refl _, Nat.le_refl _⟩ ?_
    exact K1 (Or.inl c5)
  · skip
    refine x_aload_n (pc := 8) dX10_mayGo_8 rfl rfl ?_
    refine x_iload_n (pc := 9) dX10_mayGo_9 rfl rfl ?_
    refine x_aload_n (pc := 10) dX10_mayGo_10 rfl rfl ?_
    refine x_get (pc := 11) dX10_mayGo_11 kf_RX10_92 hM.s rfl ?_
    rw [hta]
    refine x_callV (pc := 14) (As := [.int _, .int _]) dX10_mayGo_14 km_X10_round kv_X10_round kl_RX10_328 hM.s rfl rfl (by decide) ⟨Nat.le_refl _, Nat.le_refl _⟩ rfl (Nat.le_of_ble_eq_true rfl) (Nat.le_of_ble_eq_true rfl) (m_round hM.s hx ht (⟨rfl, rfl, ?_⟩))
    have hrl := rnd_lt hx ht
    refine x_iconst (pc := 17) (v := 1) dX10_mayGo_17 (by decide) ?_
    refine x_icmpn_ne (pc := 18) (tgt := 33) (a := (rnd x ta)) (b := 1) dX10_mayGo_18 (by decide) (by omega) (by decide) (fun c18 => ?_) (fun c18 => ?_)
    · skip
      refine x_iconst (pc := 33) (v := 0) dX10_mayGo_33 (by decide) ?_
      refine x_ireturn (pc := 34) dX10_mayGo_34 ⟨_, rfl, by decide⟩ ⟨Nat.le_refl _, Nat.le_refl _⟩ ?_
      exact K2 (fun h => h.elim c5 (fun h => c18 h.1))
    · skip
      refine x_aload_n (pc := 21) dX10_mayGo_21 rfl rfl ?_
      refine x_iload_n (pc := 22) dX10_mayGo_22 rfl rfl ?_
      refine x_callV (pc := 23) (As := [.int _]) dX10_mayGo_23 km_X10_isTaken kv_X10_isTaken kl_RX10_307 hM.s rfl rfl (by decide) ⟨Nat.le_refl _, Nat.le_refl _⟩ rfl (Nat.le_of_ble_eq_true rfl) (Nat.le_of_ble_eq_true rfl) (m_isTaken (x := x) hM hnb hn6 hc hce hx (fun hh => ⟨rfl, rfl, ?_⟩) (fun hf => ⟨rfl, rfl, ?_⟩))
      · skip
        refine x_if_ne_t (pc := 26) (tgt := 33) dX10_mayGo_26 (by decide) (by decide) ?_
        refine x_iconst (pc := 33) (v := 0) dX10_mayGo_33 (by decide) ?_
        refine x_ireturn (pc := 34) dX10_mayGo_34 ⟨_, rfl, by decide⟩ ⟨Nat.le_refl _, Nat.le_refl _⟩ ?_
        exact K2 (fun h => h.elim c5 (fun h => by rw [hh] at h; exact absurd h.2 (by decide)))
      · skip
        refine x_if_ne_f (pc := 26) (tgt := 33) dX10_mayGo_26 (by decide) (by decide) ?_
        refine x_iconst (pc := 29) (v := 1) dX10_mayGo_29 (by decide) ?_
        refine x_goto (pc := 30) (tgt := 34) dX10_mayGo_30 (by decide) ?_
        refine x_ireturn (pc := 34) dX10_mayGo_34 ⟨_, rfl, by decide⟩ ⟨Nat.le_refl _, Nat.le_refl _⟩ ?_
        exact K1 (Or.inr ⟨c18, hf⟩)

set_option maxHeartbeats 4000000 in
set_option maxRecDepth 100000 in
theorem lm_loudOf {T : xT} {n : Nat} {sh : Nat → Nat × Nat} {I : xI} {R : xR} {L : xL} {P : xPost} {M t : Nat} {ar : xAR} (hM : xModel sh R M) (ht : I M 11 = nI t) (hr : mdRing I M t ar) (K : P (n, sh, 0, 0) I R L (some (.int (nI (loudA ar ar.1))))) : ∀ (w i : Nat), i + w = ar.1 → X T zX10_loudOf 1 0 0 P 7 [(0, .ref M), (1, .int (nI (loudA ar i))), (2, .int (nI (8 * t + i)))] [] (n, sh, 0, 0) (I) R L := by
  have ht6 := hr.1
  have hc8 := hr.2.1
  intro w
  induction w with
  | zero =>
    intro i hw
    have hz : i = ar.1 := by omega
    refine x_iload_n (pc := 7) dX10_loudOf_7 rfl rfl ?_
    refine x_aload_n (pc := 8) dX10_loudOf_8 rfl rfl ?_
    refine x_callV (pc := 9) (As := []) dX10_loudOf_9 km_X10_behind kv_X10_behind kl_RX10_298 hM.s rfl rfl (by decide) ⟨Nat.le_refl _, Nat.le_refl _⟩ rfl (Nat.le_of_ble_eq_true rfl) (Nat.le_of_ble_eq_true rfl) (m_behind_s hM ht hr.1 hr.2.2.1 (⟨rfl, rfl, ?_⟩))
    refine x_icmpn_ge_t (pc := 12) (tgt := 42) (a := (8 * t + i)) (b := (8 * t + ar.1)) dX10_loudOf_12 (by decide) (by omega) (by omega) (by omega) ?_
    refine x_iload_n (pc := 42) dX10_loudOf_42 rfl rfl ?_
    refine x_ireturn (pc := 43) dX10_loudOf_43 ⟨_, rfl, rfl⟩ ⟨Nat.le_refl _, Nat.le_refl _⟩ ?_
    rw [hz]
    exact K
  | succ w ih =>
    intro i hw
    have hi : i < ar.1 := by omega
    obtain ⟨r1, r2, r3, r4, r5⟩ := hr.2.2.2 i hi
    refine x_iload_n (pc := 7) dX10_loudOf_7 rfl rfl ?_
    refine x_aload_n (pc := 8) dX10_loudOf_8 rfl rfl ?_
    refine x_callV (pc := 9) (As := []) dX10_loudOf_9 km_X10_behind kv_X10_behind kl_RX10_298 hM.s rfl rfl (by decide) ⟨Nat.le_refl _, Nat.le_refl _⟩ rfl (Nat.le_of_ble_eq_true rfl) (Nat.le_of_ble_eq_true rfl) (m_behind_s hM ht hr.1 hr.2.2.1 (⟨rfl, rfl, ?_⟩))
    refine x_icmpn_ge_f (pc := 12) (tgt := 42) (a := (8 * t + i)) (b := (8 * t + ar.1)) dX10_loudOf_12 (by decide) (by omega) (by omega) (by omega) ?_
    refine x_aload_n (pc := 15) dX10_loudOf_15 rfl rfl ?_
    refine x_getr (pc := 16) dX10_loudOf_16 kf_RX10_62 hM.s rfl hM.f8 ?_
    refine x_iload_n (pc := 19) dX10_loudOf_19 rfl rfl ?_
    refine x_ialdn (pc := 20) (a := (8 * t + i)) dX10_loudOf_20 hM.s8 (by omega) (by omega) ?_
    rw [r3]
    refine x_iconst (pc := 21) (v := 2) dX10_loudOf_21 (by decide) ?_
    refine x_icmpn_ne (pc := 22) (tgt := 34) (a := (ar.2.1 i)) (b := 2) dX10_loudOf_22 (by decide) (by omega) (by decide) (fun c22 => ?_) (fun c22 => ?_)
    · skip
      refine x_iload_n (pc := 34) dX10_loudOf_34 rfl rfl ?_
      refine x_istore_n (pc := 35) (lv' := [(0, .ref M), (1, .int (nI (loudA ar i))), (2, .int (nI (8 * t + i)))]) dX10_loudOf_35 rfl (by decide) rfl ?_
      refine x_iinc (pc := 36) (v := nI (8 * t + i + 1)) (lv' := [(0, .ref M), (1, .int (nI (loudA ar i))), (2, .int (nI (8 * t + i + 1)))]) dX10_loudOf_36 rfl (nI_1 _) (by decide) rfl ?_
      refine x_goto (pc := 39) (tgt := 7) dX10_loudOf_39 (by decide) ?_
      have h9 := ih (i + 1) (by omega)
      rw [show loudA ar (i + 1) = loudA ar i from if_neg c22] at h9
      exact h9
    · skip
      refine x_aload_n (pc := 25) dX10_loudOf_25 rfl rfl ?_
      refine x_getr (pc := 26) dX10_loudOf_26 kf_RX10_65 hM.s rfl hM.f9 ?_
      refine x_iload_n (pc := 29) dX10_loudOf_29 rfl rfl ?_
      refine x_ialdn (pc := 30) (a := (8 * t + i)) dX10_loudOf_30 hM.s9 (by omega) (by omega) ?_
      rw [r4]
      refine x_goto (pc := 31) (tgt := 35) dX10_loudOf_31 (by decide) ?_
      refine x_istore_n (pc := 35) (lv' := [(0, .ref M), (1, .int (nI (ar.2.2.1 i))), (2, .int (nI (8 * t + i)))]) dX10_loudOf_35 rfl (by decide) rfl ?_
      refine x_iinc (pc := 36) (v := nI (8 * t + i + 1)) (lv' := [(0, .ref M), (1, .int (nI (ar.2.2.1 i))), (2, .int (nI (8 * t + i + 1)))]) dX10_loudOf_36 rfl (nI_1 _) (by decide) rfl ?_
      refine x_goto (pc := 39) (tgt := 7) dX10_loudOf_39 (by decide) ?_
      have h9 := ih (i + 1) (by omega)
      rw [show loudA ar (i + 1) = ar.2.2.1 i from if_pos c22] at h9
      exact h9

set_option maxHeartbeats 4000000 in
set_option maxRecDepth 100000 in
theorem m_loudOf_s {T : xT} {n : Nat} {sh : Nat → Nat × Nat} {I : xI} {R : xR} {L : xL} {P : xPost} {M t : Nat} {ar : xAR} (hM : xModel sh R M) (ht : I M 11 = nI t) (hr : mdRing I M t ar) (K : P (n, sh, 0, 0) I R L (some (.int (nI (loudA ar ar.1))))) : XM T zX10_loudOf 1 [.ref M] n sh I R L P := by
  have ht6 := hr.1
  refine x_iconst (pc := 0) (v := 1) dX10_loudOf_0 (by decide) ?_
  refine x_istore_n (pc := 1) (lv' := [(0, .ref M), (1, .int 1)]) dX10_loudOf_1 rfl (by decide) rfl ?_
  refine x_aload_n (pc := 2) dX10_loudOf_2 rfl rfl ?_
  refine x_callV (pc := 3) (As := []) dX10_loudOf_3 km_X10_first kv_X10_first kl_RX10_295 hM.s rfl rfl (by decide) ⟨Nat.le_refl _, Nat.le_refl _⟩ rfl (Nat.le_of_ble_eq_true rfl) (Nat.le_of_ble_eq_true rfl) (m_first_s hM ht hr.1 (⟨rfl, rfl, ?_⟩))
  refine x_istore_n (pc := 6) (lv' := [(0, .ref M), (1, .int 1), (2, .int (nI (8 * t)))]) dX10_loudOf_6 rfl (by decide) rfl ?_
  exact lm_loudOf hM ht hr K ar.1 0 (by omega)

set_option maxHeartbeats 4000000 in
set_option maxRecDepth 100000 in
theorem m_loudOf_n {T : xT} {n : Nat} {sh : Nat → Nat × Nat} {I : xI} {R : xR} {L : xL} {P : xPost} {M : Nat} (hM : xModel sh R M) (ht : I M 11 = -1) (K : P (n, sh, 0, 0) I R L (some (.int 1))) : XM T zX10_loudOf 1 [.ref M] n sh I R L P := by
  refine x_iconst (pc := 0) (v := 1) dX10_loudOf_0 (by decide) ?_
  refine x_istore_n (pc := 1) (lv' := [(0, .ref M), (1, .int 1)]) dX10_loudOf_1 rfl (by decide) rfl ?_
  refine x_aload_n (pc := 2) dX10_loudOf_2 rfl rfl ?_
  refine x_callV (pc := 3) (As := []) dX10_loudOf_3 km_X10_first kv_X10_first kl_RX10_295 hM.s rfl rfl (by decide) ⟨Nat.le_refl _, Nat.le_refl _⟩ rfl (Nat.le_of_ble_eq_true rfl) (Nat.le_of_ble_eq_true rfl) (m_first_n hM ht (⟨rfl, rfl, ?_⟩))
  refine x_istore_n (pc := 6) (lv' := [(0, .ref M), (1, .int 1), (2, .int 0)]) dX10_loudOf_6 rfl (by decide) rfl ?_
  refine x_iload_n (pc := 7) dX10_loudOf_7 rfl rfl ?_
  refine x_aload_n (pc := 8) dX10_loudOf_8 rfl rfl ?_
  refine x_callV (pc := 9) (As := []) dX10_loudOf_9 km_X10_behind kv_X10_behind kl_RX10_298 hM.s rfl rfl (by decide) ⟨Nat.le_refl _, Nat.le_refl _⟩ rfl (Nat.le_of_ble_eq_true rfl) (Nat.le_of_ble_eq_true rfl) (m_behind_n hM ht (⟨rfl, rfl, ?_⟩))
  refine x_icmp_ge_t (pc := 12) (tgt := 42) dX10_loudOf_12 (by decide) (by decide) ?_
  refine x_iload_n (pc := 42) dX10_loudOf_42 rfl rfl ?_
  refine x_ireturn (pc := 43) dX10_loudOf_43 ⟨_, rfl, rfl⟩ ⟨Nat.le_refl _, Nat.le_refl _⟩ ?_
  exact K

theorem m_loudOf {T : xT} {n : Nat} {sh : Nat → Nat × Nat} {I : xI} {R : xR} {L : xL} {P : xPost} {M : Nat} {o : Option xAR} (hM : xModel sh R M) (hr : mdLines I M o) (K : P (n, sh, 0, 0) I R L (some (.int (nI (loudO o))))) : XM T zX10_loudOf 1 [.ref M] n sh I R L P := by
  cases o with
  | none => exact m_loudOf_n hM hr K
  | some ar =>
    obtain ⟨t, h6, h7⟩ := hr
    exact m_loudOf_s hM h6 h7 K
set_option maxHeartbeats 4000000 in
set_option maxRecDepth 100000 in
theorem lm_asIs {T : xT} {n : Nat} {sh : Nat → Nat × Nat} {I : xI} {R : xR} {L : xL} {P : xPost} {M : Nat} (hM : xModel sh R M) (K : ∀ I2 : xI, (∀ a, a ≠ M → a ≠ M + 16 → a ≠ M + 17 → I2 a = I a) → (∀ k, k ≠ 27 → k ≠ 28 → k ≠ 29 → I2 M k = I M k) → I2 M 27 = I M 1 → I2 M 28 = I M 2 → I2 M 29 = 0 → (∀ i, i < 6 → I2 (M + 16) i = I (M + 3) i) → (∀ i, i < 6 → I2 (M + 17) i = I (M + 1) i) → P (n, sh, 0, 0) I2 R L none) : ∀ (w i : Nat), i + w = 6 → ∀ (J : xI), (∀ a, a ≠ M → a ≠ M + 16 → a ≠ M + 17 → J a = I a) → (∀ k, k ≠ 27 → k ≠ 28 → k ≠ 29 → J M k = I M k) → J M 27 = I M 1 → J M 28 = I M 2 → J M 29 = 0 → (∀ j, j < i → J (M + 16) j = I (M + 3) j) → (∀ j, j < i → J (M + 17) j = I (M + 1) j) → X T zX10_asIs 0 0 0 P 23 [(0, .ref M), (1, .int (nI i))] [] (n, sh, 0, 0) (J) R L := by
  intro w
  induction w with
  | zero =>
    intro i hw J f1 f2 f3 f4 f5 f6 f7
    have hz : i = 6 := by omega
    refine x_iload_n (pc := 23) dX10_asIs_23 rfl rfl ?_
    refine x_bipush (pc := 24) (v := 6) dX10_asIs_24 (by decide) ?_
    refine x_icmpn_ge_t (pc := 26) (tgt := 59) (a := i) (b := 6) dX10_asIs_26 (by decide) (by omega) (by decide) (by omega) ?_
    refine x_return (pc := 59) dX10_asIs_59 rfl ⟨Nat.le_refl _, Nat.le_refl _⟩ ?_
    rw [hz] at f6 f7
    exact K J f1 f2 f3 f4 f5 f6 f7
  | succ w ih =>
    intro i hw J f1 f2 f3 f4 f5 f6 f7
    have hi : i < 6 := by omega
    refine x_iload_n (pc := 23) dX10_asIs_23 rfl rfl ?_
    refine x_bipush (pc := 24) (v := 6) dX10_asIs_24 (by decide) ?_
    refine x_icmpn_ge_f (pc := 26) (tgt := 59) (a := i) (b := 6) dX10_asIs_26 (by decide) (by omega) (by decide) (by omega) ?_
    refine x_aload_n (pc := 29) dX10_asIs_29 rfl rfl ?_
    refine x_getr (pc := 30) dX10_asIs_30 kf_RX10_101 hM.s rfl hM.f15 ?_
    refine x_iload_n (pc := 33) dX10_asIs_33 rfl rfl ?_
    refine x_aload_n (pc := 34) dX10_asIs_34 rfl rfl ?_
    refine x_getr (pc := 35) dX10_asIs_35 kf_RX10_29 hM.s rfl hM.f2 ?_
    refine x_iload_n (pc := 38) dX10_asIs_38 rfl rfl ?_
    refine x_ialdn (pc := 39) (a := i) dX10_asIs_39 hM.s2 (by omega) (by omega) ?_
    rw [f1 (M + 3) (by omega) (by omega) (by omega)]
    refine x_iastn (pc := 40) (a := i) dX10_asIs_40 hM.s15 (by omega) (by omega) ?_
    refine x_aload_n (pc := 41) dX10_asIs_41 rfl rfl ?_
    refine x_getr (pc := 42) dX10_asIs_42 kf_RX10_104 hM.s rfl hM.f16 ?_
    refine x_iload_n (pc := 45) dX10_asIs_45 rfl rfl ?_
    refine x_aload_n (pc := 46) dX10_asIs_46 rfl rfl ?_
    refine x_getr (pc := 47) dX10_asIs_47 kf_RX10_22 hM.s rfl hM.f0 ?_
    refine x_iload_n (pc := 50) dX10_asIs_50 rfl rfl ?_
    refine x_ialdn (pc := 51) (a := i) dX10_asIs_51 hM.s0 (by omega) (by omega) ?_
    rw [up2_a (show M + 1 ≠ M + 16 by omega), f1 (M + 1) (by omega) (by omega) (by omega)]
    refine x_iastn (pc := 52) (a := i) dX10_asIs_52 hM.s16 (by omega) (by omega) ?_
    refine x_iinc (pc := 53) (v := nI (i + 1)) (lv' := [(0, .ref M), (1, .int (nI (i + 1)))]) dX10_asIs_53 rfl (nI_1 _) (by decide) rfl ?_
    refine x_goto (pc := 56) (tgt := 23) dX10_asIs_56 (by decide) ?_
    refine ih (i + 1) (by omega) _ (fun a p1 p2 p3 => by rw [up2_row p3, up2_row p2]; exact f1 a p1 p2 p3) (fun k p1 p2 p3 => by rw [up2_a (by omega), up2_a (by omega)]; exact f2 k p1 p2 p3) (by rw [up2_a (by omega), up2_a (by omega)]; exact f3) (by rw [up2_a (by omega), up2_a (by omega)]; exact f4) (by rw [up2_a (by omega), up2_a (by omega)]; exact f5) (fun j hj => ?_) (fun j hj => ?_)
    · rw [up2_a (by omega)]
      by_cases q : j = i
      · rw [q, up2_s]
      · rw [up2_k q]
        exact f6 j (by omega)
    · by_cases q : j = i
      · rw [q, up2_s]
      · rw [up2_k q, up2_a (by omega)]
        exact f7 j (by omega)

set_option maxHeartbeats 4000000 in
set_option maxRecDepth 100000 in
theorem m_asIs {T : xT} {n : Nat} {sh : Nat → Nat × Nat} {I : xI} {R : xR} {L : xL} {P : xPost} {M : Nat} (hM : xModel sh R M) (K : ∀ I2 : xI, (∀ a, a ≠ M → a ≠ M + 16 → a ≠ M + 17 → I2 a = I a) → (∀ k, k ≠ 27 → k ≠ 28 → k ≠ 29 → I2 M k = I M k) → I2 M 27 = I M 1 → I2 M 28 = I M 2 → I2 M 29 = 0 → (∀ i, i < 6 → I2 (M + 16) i = I (M + 3) i) → (∀ i, i < 6 → I2 (M + 17) i = I (M + 1) i) → P (n, sh, 0, 0) I2 R L none) : XM T zX10_asIs 0 [.ref M] n sh I R L P := by
  refine x_aload_n (pc := 0) dX10_asIs_0 rfl rfl ?_
  refine x_aload_n (pc := 1) dX10_asIs_1 rfl rfl ?_
  refine x_get (pc := 2) dX10_asIs_2 kf_RX10_13 hM.s rfl ?_
  refine x_put (pc := 5) dX10_asIs_5 kf_RX10_92 hM.s rfl (Or.inl kb_10_27) ?_
  refine x_aload_n (pc := 8) dX10_asIs_8 rfl rfl ?_
  refine x_aload_n (pc := 9) dX10_asIs_9 rfl rfl ?_
  refine x_get (pc := 10) dX10_asIs_10 kf_RX10_16 hM.s rfl ?_
  rw [up2_k (by decide)]
  refine x_put (pc := 13) dX10_asIs_13 kf_RX10_95 hM.s rfl (Or.inl kb_10_28) ?_
  refine x_aload_n (pc := 16) dX10_asIs_16 rfl rfl ?_
  refine x_iconst (pc := 17) (v := 0) dX10_asIs_17 (by decide) ?_
  refine x_put (pc := 18) dX10_asIs_18 kf_RX10_98 hM.s rfl (Or.inl kb_10_29) ?_
  refine x_iconst (pc := 21) (v := 0) dX10_asIs_21 (by decide) ?_
  refine x_istore_n (pc := 22) (lv' := [(0, .ref M), (1, .int 0)]) dX10_asIs_22 rfl (by decide) rfl ?_
  exact lm_asIs hM K 6 0 (by omega) _ (fun a p1 p2 p3 => by rw [up2_row p1, up2_row p1, up2_row p1]) (fun k p1 p2 p3 => by rw [up2_k p3, up2_k p2, up2_k p1]) (by rw [up2_k (by decide), up2_k (by decide), up2_s]) (by rw [up2_k (by decide), up2_s]) up2_s (fun j hj => absurd hj (by omega)) (fun j hj => absurd hj (by omega))

