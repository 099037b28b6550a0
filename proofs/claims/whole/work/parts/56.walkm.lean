/-! ===== walk, film: the reference ===== -/
theorem MDV.grow6 {I : xI} {M k : Nat} {V : xV} (h : MDV I M V) : MDV (up2 (up2 I (M + 19) (V 8 4) (nI k)) M 38 (nI (V 8 4 + 1))) M (up2 (up2 V 6 (V 8 4) k) 8 4 (V 8 4 + 1)) := by
  obtain ⟨h1, h2, h3, h4, h5, h6, h7, h8, h9, h10⟩ := h
  have gf : ∀ f, f ≠ 38 → (up2 (up2 I (M + 19) (V 8 4) (nI k)) M 38 (nI (V 8 4 + 1))) M f = I M f := fun f p => (up2_k p).trans (congrFun (up2_row (by omega)) f)
  have ga : ∀ a, a ≠ M → a ≠ M + 19 → a ≠ M + 200 → (up2 (up2 I (M + 19) (V 8 4) (nI k)) M 38 (nI (V 8 4 + 1))) a = I a := fun a p1 p3 p2 => (up2_row p1).trans (up2_row p3)
  have v8 : ∀ s, s ≠ 4 → (up2 (up2 V 6 (V 8 4) k) 8 4 (V 8 4 + 1)) 8 s = V 8 s := fun s p => (up2_k p).trans rfl
  have vj : ∀ j, j ≠ 8 → j ≠ 6 → (up2 (up2 V 6 (V 8 4) k) 8 4 (V 8 4 + 1)) j = V j := fun j p1 p2 => (up2_row p1).trans (up2_row p2)
  refine ⟨by rw [gf 0 (by decide), v8 0 (by decide)]; exact h1, by rw [gf 1 (by decide), v8 1 (by decide)]; exact h2, by rw [gf 2 (by decide), v8 2 (by decide)]; exact h3, by rw [gf 3 (by decide), v8 3 (by decide)]; exact h4, by rw [show (up2 (up2 I (M + 19) (V 8 4) (nI k)) M 38 (nI (V 8 4 + 1))) M 38 = nI (V 8 4 + 1) from up2_s, show (up2 (up2 V 6 (V 8 4) k) 8 4 (V 8 4 + 1)) 8 4 = V 8 4 + 1 from up2_s], by rw [gf 46 (by decide), v8 5 (by decide)]; exact h6, by rw [gf 11 (by decide), v8 6 (by decide)]; exact h7, ?_, ?_, ?_⟩
  · intro j hj i hi
    rw [v8 0 (by decide)] at hi
    rw [(ga (M + 1 + j) (by omega) (by omega) (by omega)), vj j (by omega) (by omega)]
    exact h8 j hj i hi
  · exact fun i hi => by
      rw [show (up2 (up2 V 6 (V 8 4) k) 8 4 (V 8 4 + 1)) 8 4 = V 8 4 + 1 from up2_s] at hi
      rw [show (up2 (up2 V 6 (V 8 4) k) 8 4 (V 8 4 + 1)) 6 i = up2 V 6 (V 8 4) k 6 i from congrFun (up2_row (by decide)) i, show (up2 (up2 I (M + 19) (V 8 4) (nI k)) M 38 (nI (V 8 4 + 1))) (M + 19) i = up2 I (M + 19) (V 8 4) (nI k) (M + 19) i from congrFun (up2_row (by omega)) i]
      by_cases q : i = V 8 4
      · rw [q, up2_s]
        exact congrArg nI up2_s.symm
      · rw [up2_k q, up2_k q]
        exact h9 i (by omega)
  · exact fun i hi => by
      rw [v8 5 (by decide)] at hi
      rw [(ga (M + 26) (by omega) (by omega) (by omega)), (vj 7 (by decide) (by decide))]
      exact h10 i hi

theorem MDV.clr6 {I : xI} {M : Nat} {V : xV} (h : MDV I M V) : MDV (up2 I M 38 0) M (up2 V 8 4 0) := by
  obtain ⟨h1, h2, h3, h4, h5, h6, h7, h8, h9, h10⟩ := h
  have gf : ∀ f, f ≠ 38 → (up2 I M 38 0) M f = I M f := fun f p => (up2_k p).trans rfl
  have ga : ∀ a, a ≠ M → a ≠ M + 200 → (up2 I M 38 0) a = I a := fun a p1 p2 => (up2_row p1).trans rfl
  have v8 : ∀ s, s ≠ 4 → (up2 V 8 4 0) 8 s = V 8 s := fun s p => (up2_k p).trans rfl
  have vj : ∀ j, j ≠ 8 → (up2 V 8 4 0) j = V j := fun j p1 => (up2_row p1).trans rfl
  refine ⟨by rw [gf 0 (by decide), v8 0 (by decide)]; exact h1, by rw [gf 1 (by decide), v8 1 (by decide)]; exact h2, by rw [gf 2 (by decide), v8 2 (by decide)]; exact h3, by rw [gf 3 (by decide), v8 3 (by decide)]; exact h4, by rw [show (up2 I M 38 0) M 38 = 0 from up2_s, show (up2 V 8 4 0) 8 4 = 0 from up2_s]; rfl, by rw [gf 46 (by decide), v8 5 (by decide)]; exact h6, by rw [gf 11 (by decide), v8 6 (by decide)]; exact h7, ?_, ?_, ?_⟩
  · intro j hj i hi
    rw [v8 0 (by decide)] at hi
    rw [(ga (M + 1 + j) (by omega) (by omega)), vj j (by omega)]
    exact h8 j hj i hi
  · exact fun i hi => by
      rw [show (up2 V 8 4 0) 8 4 = 0 from up2_s] at hi
      exact absurd hi (by omega)
  · exact fun i hi => by
      rw [v8 5 (by decide)] at hi
      rw [(ga (M + 26) (by omega) (by omega)), (vj 7 (by decide))]
      exact h10 i hi

set_option maxHeartbeats 4000000 in
set_option maxRecDepth 100000 in
theorem m_walkIt {T : xT} {n : Nat} {sh : Nat → Nat × Nat} {I : xI} {R : xR} {L : xL} {P : xPost} {M : Nat} (hM : xModel sh R M) {V : xV} {B : Nat} (h : MDV I M V) (hv : VOK V B) {x : Int32} (K : ∀ I2 : xI, MDV I2 M (spCome V 6 12 x).2 → mdP M I I2 → P (n, sh, 0, 0) I2 R L (some (.int (spCome V 6 12 x).1)))  : XM T zX10_walk 2 [.ref M, .int x] n sh I R L P := by
  obtain ⟨v6, v12, v10, vb, vf, vw, vm, vta, vte, vod, vrg, vdi⟩ := id hv
  refine x_iload_n (pc := 0) dX10_walk_0 rfl rfl ?_
  refine x_iconst (pc := 1) (v := -1) dX10_walk_1 (by decide) ?_
  refine x_icmp_ne (pc := 2) (tgt := 12) dX10_walk_2 (by decide) (fun c2 => ?_) (fun c2 => ?_)
  · skip
    refine x_aload_n (pc := 12) dX10_walk_12 rfl rfl ?_
    refine x_iload_n (pc := 13) dX10_walk_13 rfl rfl ?_
    refine x_callV (pc := 14) (As := [.int _]) dX10_walk_14 km_X10_isCell kv_X10_isCell kl_RX10_235 hM.s rfl rfl (by decide) ⟨Nat.le_refl _, Nat.le_refl _⟩ rfl (Nat.le_of_ble_eq_true rfl) (Nat.le_of_ble_eq_true rfl) (m_isCell hM.s (fun k hk ek => ⟨rfl, rfl, ?_⟩) (fun h1 => ⟨rfl, rfl, ?_⟩))
    · skip
      subst ek
      refine x_if_ne_t (pc := 17) (tgt := 22) dX10_walk_17 (by decide) (by decide) ?_
      refine x_aload_n (pc := 22) dX10_walk_22 rfl rfl ?_
      refine x_get (pc := 23) dX10_walk_23 kf_RX10_126 hM.s rfl ?_
      rw [h.2.2.2.2.1]
      refine x_bipush (pc := 26) (v := 12) dX10_walk_26 (by decide) ?_
      refine x_icmpn_ne (pc := 28) (tgt := 34) (a := (V 8 4)) (b := 12) dX10_walk_28 (by decide) (by omega) (by decide) (fun c28 => ?_) (fun c28 => ?_)
      · skip
        refine x_aload_n (pc := 34) dX10_walk_34 rfl rfl ?_
        refine x_getr (pc := 35) dX10_walk_35 kf_RX10_129 hM.s rfl hM.f18 ?_
        refine x_aload_n (pc := 38) dX10_walk_38 rfl rfl ?_
        refine x_get (pc := 39) dX10_walk_39 kf_RX10_126 hM.s rfl ?_
        rw [h.2.2.2.2.1]
        refine x_iload_n (pc := 42) dX10_walk_42 rfl rfl ?_
        refine x_iastn (pc := 43) (a := (V 8 4)) dX10_walk_43 hM.s18 (by omega) (by omega) ?_
        refine x_aload_n (pc := 44) dX10_walk_44 rfl rfl ?_
        refine x_dup (pc := 45) dX10_walk_45 rfl ?_
        refine x_get (pc := 46) dX10_walk_46 kf_RX10_126 hM.s rfl ?_
        rw [up2_row (show M ≠ M + 19 by omega), h.2.2.2.2.1]
        refine x_iconst (pc := 49) (v := 1) dX10_walk_49 (by decide) ?_
        refine x_iaddn (pc := 50) (a := (V 8 4)) (b := 1) dX10_walk_50 ?_
        refine x_put (pc := 51) dX10_walk_51 kf_RX10_126 hM.s rfl (Or.inl kb_10_38) ?_
        refine x_aload_n (pc := 54) dX10_walk_54 rfl rfl ?_
        refine x_get (pc := 55) dX10_walk_55 kf_RX10_126 hM.s rfl ?_
        rw [up2_s]
        refine x_ireturn (pc := 58) dX10_walk_58 ⟨_, rfl, rfl⟩ ⟨Nat.le_refl _, Nat.le_refl _⟩ ?_
        have hs : V 8 4 < 12 := by omega
        have h9 := K _ (by rw [spCome_s hk hs]; exact h.grow6) ((mdP.arr (by omega)).tr (mdP.fld (by decide)))
        rw [spCome_s hk hs] at h9
        exact h9
      · skip
        refine x_bipush (pc := 31) (v := -4) dX10_walk_31 (by decide) ?_
        refine x_ireturn (pc := 33) dX10_walk_33 ⟨_, rfl, rfl⟩ ⟨Nat.le_refl _, Nat.le_refl _⟩ ?_
        have hf : ¬ V 8 4 < 12 := by omega
        have h9 := K I (by rw [spCome_f hk hf]; exact h) mdP.rf
        rw [spCome_f hk hf] at h9
        exact h9
    · skip
      refine x_if_ne_f (pc := 17) (tgt := 22) dX10_walk_17 (by decide) (by decide) ?_
      refine x_iconst (pc := 20) (v := -1) dX10_walk_20 (by decide) ?_
      refine x_ireturn (pc := 21) dX10_walk_21 ⟨_, rfl, rfl⟩ ⟨Nat.le_refl _, Nat.le_refl _⟩ ?_
      have h9 := K I (by rw [spCome_n c2 (cell_n h1)]; exact h) mdP.rf
      rw [spCome_n c2 (cell_n h1)] at h9
      exact h9
  · skip
    refine x_aload_n (pc := 5) dX10_walk_5 rfl rfl ?_
    refine x_iconst (pc := 6) (v := 0) dX10_walk_6 (by decide) ?_
    refine x_put (pc := 7) dX10_walk_7 kf_RX10_126 hM.s rfl (Or.inl kb_10_38) ?_
    refine x_iconst (pc := 10) (v := 0) dX10_walk_10 (by decide) ?_
    refine x_ireturn (pc := 11) dX10_walk_11 ⟨_, rfl, rfl⟩ ⟨Nat.le_refl _, Nat.le_refl _⟩ ?_
    subst c2
    have h9 := K (up2 I M 38 0) (by rw [spCome_m]; exact h.clr6) (mdP.fld (by decide))
    rw [spCome_m] at h9
    exact h9

theorem MDV.grow7 {I : xI} {M k : Nat} {V : xV} (h : MDV I M V) : MDV (up2 (up2 I (M + 26) (V 8 5) (nI k)) M 46 (nI (V 8 5 + 1))) M (up2 (up2 V 7 (V 8 5) k) 8 5 (V 8 5 + 1)) := by
  obtain ⟨h1, h2, h3, h4, h5, h6, h7, h8, h9, h10⟩ := h
  have gf : ∀ f, f ≠ 46 → (up2 (up2 I (M + 26) (V 8 5) (nI k)) M 46 (nI (V 8 5 + 1))) M f = I M f := fun f p => (up2_k p).trans (congrFun (up2_row (by omega)) f)
  have ga : ∀ a, a ≠ M → a ≠ M + 26 → a ≠ M + 200 → (up2 (up2 I (M + 26) (V 8 5) (nI k)) M 46 (nI (V 8 5 + 1))) a = I a := fun a p1 p3 p2 => (up2_row p1).trans (up2_row p3)
  have v8 : ∀ s, s ≠ 5 → (up2 (up2 V 7 (V 8 5) k) 8 5 (V 8 5 + 1)) 8 s = V 8 s := fun s p => (up2_k p).trans rfl
  have vj : ∀ j, j ≠ 8 → j ≠ 7 → (up2 (up2 V 7 (V 8 5) k) 8 5 (V 8 5 + 1)) j = V j := fun j p1 p2 => (up2_row p1).trans (up2_row p2)
  refine ⟨by rw [gf 0 (by decide), v8 0 (by decide)]; exact h1, by rw [gf 1 (by decide), v8 1 (by decide)]; exact h2, by rw [gf 2 (by decide), v8 2 (by decide)]; exact h3, by rw [gf 3 (by decide), v8 3 (by decide)]; exact h4, by rw [gf 38 (by decide), v8 4 (by decide)]; exact h5, by rw [show (up2 (up2 I (M + 26) (V 8 5) (nI k)) M 46 (nI (V 8 5 + 1))) M 46 = nI (V 8 5 + 1) from up2_s, show (up2 (up2 V 7 (V 8 5) k) 8 5 (V 8 5 + 1)) 8 5 = V 8 5 + 1 from up2_s], by rw [gf 11 (by decide), v8 6 (by decide)]; exact h7, ?_, ?_, ?_⟩
  · intro j hj i hi
    rw [v8 0 (by decide)] at hi
    rw [(ga (M + 1 + j) (by omega) (by omega) (by omega)), vj j (by omega) (by omega)]
    exact h8 j hj i hi
  · exact fun i hi => by
      rw [v8 4 (by decide)] at hi
      rw [(ga (M + 19) (by omega) (by omega) (by omega)), (vj 6 (by decide) (by decide))]
      exact h9 i hi
  · exact fun i hi => by
      rw [show (up2 (up2 V 7 (V 8 5) k) 8 5 (V 8 5 + 1)) 8 5 = V 8 5 + 1 from up2_s] at hi
      rw [show (up2 (up2 V 7 (V 8 5) k) 8 5 (V 8 5 + 1)) 7 i = up2 V 7 (V 8 5) k 7 i from congrFun (up2_row (by decide)) i, show (up2 (up2 I (M + 26) (V 8 5) (nI k)) M 46 (nI (V 8 5 + 1))) (M + 26) i = up2 I (M + 26) (V 8 5) (nI k) (M + 26) i from congrFun (up2_row (by omega)) i]
      by_cases q : i = V 8 5
      · rw [q, up2_s]
        exact congrArg nI up2_s.symm
      · rw [up2_k q, up2_k q]
        exact h10 i (by omega)

theorem MDV.clr7 {I : xI} {M : Nat} {V : xV} (h : MDV I M V) : MDV (up2 I M 46 0) M (up2 V 8 5 0) := by
  obtain ⟨h1, h2, h3, h4, h5, h6, h7, h8, h9, h10⟩ := h
  have gf : ∀ f, f ≠ 46 → (up2 I M 46 0) M f = I M f := fun f p => (up2_k p).trans rfl
  have ga : ∀ a, a ≠ M → a ≠ M + 200 → (up2 I M 46 0) a = I a := fun a p1 p2 => (up2_row p1).trans rfl
  have v8 : ∀ s, s ≠ 5 → (up2 V 8 5 0) 8 s = V 8 s := fun s p => (up2_k p).trans rfl
  have vj : ∀ j, j ≠ 8 → (up2 V 8 5 0) j = V j := fun j p1 => (up2_row p1).trans rfl
  refine ⟨by rw [gf 0 (by decide), v8 0 (by decide)]; exact h1, by rw [gf 1 (by decide), v8 1 (by decide)]; exact h2, by rw [gf 2 (by decide), v8 2 (by decide)]; exact h3, by rw [gf 3 (by decide), v8 3 (by decide)]; exact h4, by rw [gf 38 (by decide), v8 4 (by decide)]; exact h5, by rw [show (up2 I M 46 0) M 46 = 0 from up2_s, show (up2 V 8 5 0) 8 5 = 0 from up2_s]; rfl, by rw [gf 11 (by decide), v8 6 (by decide)]; exact h7, ?_, ?_, ?_⟩
  · intro j hj i hi
    rw [v8 0 (by decide)] at hi
    rw [(ga (M + 1 + j) (by omega) (by omega)), vj j (by omega)]
    exact h8 j hj i hi
  · exact fun i hi => by
      rw [v8 4 (by decide)] at hi
      rw [(ga (M + 19) (by omega) (by omega)), (vj 6 (by decide))]
      exact h9 i hi
  · exact fun i hi => by
      rw [show (up2 V 8 5 0) 8 5 = 0 from up2_s] at hi
      exact absurd hi (by omega)

set_option maxHeartbeats 4000000 in
set_option maxRecDepth 100000 in
theorem m_filmIt {T : xT} {n : Nat} {sh : Nat → Nat × Nat} {I : xI} {R : xR} {L : xL} {P : xPost} {M : Nat} (hM : xModel sh R M) {V : xV} {B : Nat} (h : MDV I M V) (hv : VOK V B) {x : Int32} (K : ∀ I2 : xI, MDV I2 M (spCome V 7 10 x).2 → mdP M I I2 → P (n, sh, 0, 0) I2 R L (some (.int (spCome V 7 10 x).1)))  : XM T zX10_film 2 [.ref M, .int x] n sh I R L P := by
  obtain ⟨v6, v12, v10, vb, vf, vw, vm, vta, vte, vod, vrg, vdi⟩ := id hv
  refine x_iload_n (pc := 0) dX10_film_0 rfl rfl ?_
  refine x_iconst (pc := 1) (v := -1) dX10_film_1 (by decide) ?_
  refine x_icmp_ne (pc := 2) (tgt := 12) dX10_film_2 (by decide) (fun c2 => ?_) (fun c2 => ?_)
  · skip
    refine x_aload_n (pc := 12) dX10_film_12 rfl rfl ?_
    refine x_iload_n (pc := 13) dX10_film_13 rfl rfl ?_
    refine x_callV (pc := 14) (As := [.int _]) dX10_film_14 km_X10_isCell kv_X10_isCell kl_RX10_235 hM.s rfl rfl (by decide) ⟨Nat.le_refl _, Nat.le_refl _⟩ rfl (Nat.le_of_ble_eq_true rfl) (Nat.le_of_ble_eq_true rfl) (m_isCell hM.s (fun k hk ek => ⟨rfl, rfl, ?_⟩) (fun h1 => ⟨rfl, rfl, ?_⟩))
    · skip
      subst ek
      refine x_if_ne_t (pc := 17) (tgt := 22) dX10_film_17 (by decide) (by decide) ?_
      refine x_aload_n (pc := 22) dX10_film_22 rfl rfl ?_
      refine x_get (pc := 23) dX10_film_23 kf_RX10_150 hM.s rfl ?_
      rw [h.2.2.2.2.2.1]
      refine x_bipush (pc := 26) (v := 10) dX10_film_26 (by decide) ?_
      refine x_icmpn_ne (pc := 28) (tgt := 34) (a := (V 8 5)) (b := 10) dX10_film_28 (by decide) (by omega) (by decide) (fun c28 => ?_) (fun c28 => ?_)
      · skip
        refine x_aload_n (pc := 34) dX10_film_34 rfl rfl ?_
        refine x_getr (pc := 35) dX10_film_35 kf_RX10_153 hM.s rfl hM.f25 ?_
        refine x_aload_n (pc := 38) dX10_film_38 rfl rfl ?_
        refine x_get (pc := 39) dX10_film_39 kf_RX10_150 hM.s rfl ?_
        rw [h.2.2.2.2.2.1]
        refine x_iload_n (pc := 42) dX10_film_42 rfl rfl ?_
        refine x_iastn (pc := 43) (a := (V 8 5)) dX10_film_43 hM.s25 (by omega) (by omega) ?_
        refine x_aload_n (pc := 44) dX10_film_44 rfl rfl ?_
        refine x_dup (pc := 45) dX10_film_45 rfl ?_
        refine x_get (pc := 46) dX10_film_46 kf_RX10_150 hM.s rfl ?_
        rw [up2_row (show M ≠ M + 26 by omega), h.2.2.2.2.2.1]
        refine x_iconst (pc := 49) (v := 1) dX10_film_49 (by decide) ?_
        refine x_iaddn (pc := 50) (a := (V 8 5)) (b := 1) dX10_film_50 ?_
        refine x_put (pc := 51) dX10_film_51 kf_RX10_150 hM.s rfl (Or.inl kb_10_46) ?_
        refine x_aload_n (pc := 54) dX10_film_54 rfl rfl ?_
        refine x_get (pc := 55) dX10_film_55 kf_RX10_150 hM.s rfl ?_
        rw [up2_s]
        refine x_ireturn (pc := 58) dX10_film_58 ⟨_, rfl, rfl⟩ ⟨Nat.le_refl _, Nat.le_refl _⟩ ?_
        have hs : V 8 5 < 10 := by omega
        have h9 := K _ (by rw [spCome_s hk hs]; exact h.grow7) ((mdP.arr (by omega)).tr (mdP.fld (by decide)))
        rw [spCome_s hk hs] at h9
        exact h9
      · skip
        refine x_bipush (pc := 31) (v := -4) dX10_film_31 (by decide) ?_
        refine x_ireturn (pc := 33) dX10_film_33 ⟨_, rfl, rfl⟩ ⟨Nat.le_refl _, Nat.le_refl _⟩ ?_
        have hf : ¬ V 8 5 < 10 := by omega
        have h9 := K I (by rw [spCome_f hk hf]; exact h) mdP.rf
        rw [spCome_f hk hf] at h9
        exact h9
    · skip
      refine x_if_ne_f (pc := 17) (tgt := 22) dX10_film_17 (by decide) (by decide) ?_
      refine x_iconst (pc := 20) (v := -1) dX10_film_20 (by decide) ?_
      refine x_ireturn (pc := 21) dX10_film_21 ⟨_, rfl, rfl⟩ ⟨Nat.le_refl _, Nat.le_refl _⟩ ?_
      have h9 := K I (by rw [spCome_n c2 (cell_n h1)]; exact h) mdP.rf
      rw [spCome_n c2 (cell_n h1)] at h9
      exact h9
  · skip
    refine x_aload_n (pc := 5) dX10_film_5 rfl rfl ?_
    refine x_iconst (pc := 6) (v := 0) dX10_film_6 (by decide) ?_
    refine x_put (pc := 7) dX10_film_7 kf_RX10_150 hM.s rfl (Or.inl kb_10_46) ?_
    refine x_iconst (pc := 10) (v := 0) dX10_film_10 (by decide) ?_
    refine x_ireturn (pc := 11) dX10_film_11 ⟨_, rfl, rfl⟩ ⟨Nat.le_refl _, Nat.le_refl _⟩ ?_
    subst c2
    have h9 := K (up2 I M 46 0) (by rw [spCome_m]; exact h.clr7) (mdP.fld (by decide))
    rw [spCome_m] at h9
    exact h9

