/-! ===== calm: the reference ===== -/
theorem MS.setLoud {sh : Nat → Nat × Nat} {R : xR} {I : xI} {M nb ta te lo : Nat} {ki ve ce sto hu : Nat → Nat} {o : Option xAR} {t : Nat} (h : MS sh R I M nb ki ve ce sto hu ta te lo o) (ht : t < 100) : MS sh R (up2 I M 29 (nI t)) M nb ki ve ce sto hu ta te t o := by
  obtain ⟨a1, a2, a3, a4, a5, a6, a7, a8, a9, a10, a11, a12, a13, a14, a15, a16⟩ := h
  have k : ∀ j, 0 < j → up2 I M 29 (nI t) (M + j) = I (M + j) := fun j p => up2_row (by omega)
  exact ⟨a1, a2, by rw [up2_k (by decide)]; exact a3, fun i hi => by rw [k 17 (by omega)]; exact a4 i hi, fun i hi => by rw [k 2 (by omega)]; exact a5 i hi, fun i hi => by rw [k 16 (by omega)]; exact a6 i hi, fun i hi => by rw [k 4 (by omega)]; exact a7 i hi, fun i hi => by rw [k 5 (by omega)]; exact a8 i hi, a9, by rw [up2_k (by decide)]; exact a10, a11, by rw [up2_k (by decide)]; exact a12, a13, up2_s, ht, a16.keep (up2_k (by decide)) (fun j p1 p2 => k j (by omega))⟩
theorem loudO_lt {I : xI} {M : Nat} {o : Option xAR} (h : mdLines I M o) : loudO o < 100 := by
  cases o with
  | none => exact (by decide : 1 < 100)
  | some ar =>
    obtain ⟨t, _, _, _, _, hc⟩ := h
    exact loudA_lt (fun c hh => (hc c hh).2.1) ar.1 (Nat.le_refl _)
theorem lN_0 (a : Nat) : lN a + 0 = lN a := lN_add a 0

set_option maxHeartbeats 4000000 in
set_option maxRecDepth 100000 in
theorem lm_calmA {T : xT} {n : Nat} {sh : Nat → Nat × Nat} {I : xI} {R : xR} {L : xL} {P : xPost} {M m : Nat} {y : Int32} (hm : m ≤ 6) (K : X T zX10_calm 7 0 0 P 53 [(0, .ref M), (1, .int (nI m)), (2, .int y), (3, .long 0), (5, .long (lN (10 ^ m)))] [] (n, sh, 0, 0) I R L)  : ∀ (w i : Nat), i + w = m → X T zX10_calm 7 0 0 P 33 [(0, .ref M), (1, .int (nI m)), (2, .int y), (3, .long 0), (5, .long (lN (10 ^ i))), (7, .int (nI i))] [] (n, sh, 0, 0) (I) R L := by
  intro w
  induction w with
  | zero =>
    intro i hw
    have hz : i = m := by omega
    refine x_iload (pc := 33) dX10_calm_33 rfl ?_
    refine x_iload_n (pc := 35) dX10_calm_35 rfl rfl ?_
    refine x_icmpn_ge_t (pc := 36) (tgt := 53) (a := i) (b := m) dX10_calm_36 (by decide) (by omega) (by omega) (by omega) ?_
    rw [hz]
    exact X.keep [0, 1, 2, 3, 5] rfl K
  | succ w ih =>
    intro i hw
    have hi : i < m := by omega
    refine x_iload (pc := 33) dX10_calm_33 rfl ?_
    refine x_iload_n (pc := 35) dX10_calm_35 rfl rfl ?_
    refine x_icmpn_ge_f (pc := 36) (tgt := 53) (a := i) (b := m) dX10_calm_36 (by decide) (by omega) (by omega) (by omega) ?_
    refine x_lload (pc := 39) dX10_calm_39 rfl ?_
    refine x_ldc2 (pc := 41) (v := 10) dX10_calm_41 kk_RX10_373 ?_
    refine x_lmul (pc := 44) dX10_calm_44 ?_
    rw [show lN (10 ^ i) * 10 = lN (10 ^ (i + 1)) from (lN_mul _ _).trans (congrArg lN (Nat.pow_succ 10 i).symm)]
    refine x_lstore (pc := 45) (lv' := [(0, .ref M), (1, .int (nI m)), (2, .int y), (3, .long 0), (5, .long (lN (10 ^ (i + 1)))), (7, .int (nI i))]) dX10_calm_45 (by decide) rfl ?_
    refine x_iinc (pc := 47) (v := nI (i + 1)) (lv' := [(0, .ref M), (1, .int (nI m)), (2, .int y), (3, .long 0), (5, .long (lN (10 ^ (i + 1)))), (7, .int (nI (i + 1)))]) dX10_calm_47 rfl (nI_1 _) (by decide) rfl ?_
    refine x_goto (pc := 50) (tgt := 33) dX10_calm_50 (by decide) ?_
    exact ih (i + 1) (by omega)

set_option maxHeartbeats 4000000 in
set_option maxRecDepth 100000 in
theorem lm_calmW {T : xT} {n : Nat} {sh : Nat → Nat × Nat} {I : xI} {R : xR} {L : xL} {P : xPost} {M m t ab be od : Nat} {y : Int32} (hM : xModel sh R M) (hm : m ≤ 6) (ht : t < 64) (hod : I M 3 = nI od) (ho : od ≤ 10) (K : X T zX10_calm 7 0 0 P 114 [(0, .ref M), (1, .int (nI m)), (2, .int y), (3, .long (lN ab)), (5, .long (lN be)), (7, .int (nI t)), (8, .long (lN (wtF od t m)))] [] (n, sh, 0, 0) I R L)  : ∀ (w i : Nat), i + w = m → X T zX10_calm 7 0 0 P 70 [(0, .ref M), (1, .int (nI m)), (2, .int y), (3, .long (lN ab)), (5, .long (lN be)), (7, .int (nI t)), (8, .long (lN (wtF od t i))), (10, .int (nI i))] [] (n, sh, 0, 0) (I) R L := by
  intro w
  induction w with
  | zero =>
    intro i hw
    have hz : i = m := by omega
    refine x_iload (pc := 70) dX10_calm_70 rfl ?_
    refine x_iload_n (pc := 72) dX10_calm_72 rfl rfl ?_
    refine x_icmpn_ge_t (pc := 73) (tgt := 114) (a := i) (b := m) dX10_calm_73 (by decide) (by omega) (by omega) (by omega) ?_
    rw [hz]
    exact X.keep [0, 1, 2, 3, 5, 7, 8] rfl K
  | succ w ih =>
    intro i hw
    have hi : i < m := by omega
    refine x_iload (pc := 70) dX10_calm_70 rfl ?_
    refine x_iload_n (pc := 72) dX10_calm_72 rfl rfl ?_
    refine x_icmpn_ge_f (pc := 73) (tgt := 114) (a := i) (b := m) dX10_calm_73 (by decide) (by omega) (by omega) (by omega) ?_
    refine x_lload (pc := 76) dX10_calm_76 rfl ?_
    refine x_iload (pc := 78) dX10_calm_78 rfl ?_
    refine x_iload (pc := 80) dX10_calm_80 rfl ?_
    refine x_ishr (pc := 82) dX10_calm_82 ?_
    refine x_iconst (pc := 83) (v := 1) dX10_calm_83 (by decide) ?_
    refine x_iand (pc := 84) dX10_calm_84 ?_
    rw [bget_m t ht i (by omega)]
    have hg := @bget_lt t i
    refine x_iconst (pc := 85) (v := 1) dX10_calm_85 (by decide) ?_
    refine x_icmpn_ne (pc := 86) (tgt := 97) (a := (bget t i)) (b := 1) dX10_calm_86 (by decide) (by omega) (by decide) (fun c86 => ?_) (fun c86 => ?_)
    · skip
      refine x_bipush (pc := 97) (v := 10) dX10_calm_97 (by decide) ?_
      refine x_aload_n (pc := 99) dX10_calm_99 rfl rfl ?_
      refine x_get (pc := 100) dX10_calm_100 kf_RX10_19 hM.s rfl ?_
      rw [hod]
      refine x_isubn (pc := 103) (a := 10) (b := od) dX10_calm_103 (ho) ?_
      refine x_i2l (pc := 104) dX10_calm_104 ?_
      rw [nI_i64 (by omega)]
      refine x_lmul (pc := 105) dX10_calm_105 ?_
      rw [lN_mul]
      refine x_topl (fun v106 ev106 => ?_)
      refine x_lstore (pc := 106) (lv' := [(0, .ref M), (1, .int (nI m)), (2, .int y), (3, .long (lN ab)), (5, .long (lN be)), (7, .int (nI t)), (8, .long v106), (10, .int (nI i))]) dX10_calm_106 (by decide) rfl ?_
      refine x_iinc (pc := 108) (v := nI (i + 1)) (lv' := [(0, .ref M), (1, .int (nI m)), (2, .int y), (3, .long (lN ab)), (5, .long (lN be)), (7, .int (nI t)), (8, .long v106), (10, .int (nI (i + 1)))]) dX10_calm_108 rfl (nI_1 _) (by decide) rfl ?_
      refine x_goto (pc := 111) (tgt := 70) dX10_calm_111 (by decide) ?_
      subst ev106
      first | rw [show wtF od t i * od = wtF od t (i + 1) from by show _ = wtF od t i * (if bget t i = 1 then od else 10 - od); rw [if_pos (by omega)]] | rw [show wtF od t i * (10 - od) = wtF od t (i + 1) from by show _ = wtF od t i * (if bget t i = 1 then od else 10 - od); rw [if_neg (by omega)]]
      exact ih (i + 1) (by omega)
    · skip
      refine x_aload_n (pc := 89) dX10_calm_89 rfl rfl ?_
      refine x_get (pc := 90) dX10_calm_90 kf_RX10_19 hM.s rfl ?_
      rw [hod]
      refine x_i2l (pc := 93) dX10_calm_93 ?_
      rw [nI_i64 (by omega)]
      refine x_goto (pc := 94) (tgt := 105) dX10_calm_94 (by decide) ?_
      refine x_lmul (pc := 105) dX10_calm_105 ?_
      rw [lN_mul]
      refine x_topl (fun v106 ev106 => ?_)
      refine x_lstore (pc := 106) (lv' := [(0, .ref M), (1, .int (nI m)), (2, .int y), (3, .long (lN ab)), (5, .long (lN be)), (7, .int (nI t)), (8, .long v106), (10, .int (nI i))]) dX10_calm_106 (by decide) rfl ?_
      refine x_iinc (pc := 108) (v := nI (i + 1)) (lv' := [(0, .ref M), (1, .int (nI m)), (2, .int y), (3, .long (lN ab)), (5, .long (lN be)), (7, .int (nI t)), (8, .long v106), (10, .int (nI (i + 1)))]) dX10_calm_108 rfl (nI_1 _) (by decide) rfl ?_
      refine x_goto (pc := 111) (tgt := 70) dX10_calm_111 (by decide) ?_
      subst ev106
      first | rw [show wtF od t i * od = wtF od t (i + 1) from by show _ = wtF od t i * (if bget t i = 1 then od else 10 - od); rw [if_pos (by omega)]] | rw [show wtF od t i * (10 - od) = wtF od t (i + 1) from by show _ = wtF od t i * (if bget t i = 1 then od else 10 - od); rw [if_neg (by omega)]]
      exact ih (i + 1) (by omega)

set_option maxHeartbeats 4000000 in
set_option maxRecDepth 100000 in
theorem lm_calmD0 {T : xT} {n : Nat} {sh : Nat → Nat × Nat} {I : xI} {R : xR} {L : xL} {P : xPost} {M m t ab be w0 i : Nat} {y : Int32} (hm : m ≤ 6) (hi : i ≤ 6) (K : X T zX10_calm 7 0 0 P 192 [(0, .ref M), (1, .int (nI m)), (2, .int y), (3, .long (lN ab)), (5, .long (lN be)), (7, .int (nI t)), (8, .long (lN w0)), (10, .int 0)] [] (n, sh, 0, 0) I R L)  :  X T zX10_calm 7 0 0 P 134 [(0, .ref M), (1, .int (nI m)), (2, .int y), (3, .long (lN ab)), (5, .long (lN be)), (7, .int (nI t)), (8, .long (lN w0)), (10, .int 0), (11, .int (nI i))] [] (n, sh, 0, 0) (I) R L := by
  refine x_iload (pc := 134) dX10_calm_134 rfl ?_
  refine x_iload_n (pc := 136) dX10_calm_136 rfl rfl ?_
  refine x_icmpn_ge (pc := 137) (tgt := 192) (a := i) (b := m) dX10_calm_137 (by decide) (by omega) (by omega) (fun c137 => ?_) (fun c137 => ?_)
  · skip
    exact X.keep [0, 1, 2, 3, 5, 7, 8, 10] rfl K
  · skip
    refine x_iload (pc := 140) dX10_calm_140 rfl ?_
    refine x_if_eq_t (pc := 142) (tgt := 192) dX10_calm_142 (by decide) (by decide) ?_
    exact X.keep [0, 1, 2, 3, 5, 7, 8, 10] rfl K

set_option maxHeartbeats 4000000 in
set_option maxRecDepth 100000 in
theorem lm_calmD {T : xT} {n : Nat} {sh : Nat → Nat × Nat} {I : xI} {R : xR} {L : xL} {P : xPost} {M : Nat} (hM : xModel sh R M) {V : xV} {B : Nat} {ars : Nat → xAR} (hv : VOK V B) (hB : B < 800000) {m t ab be w0 : Nat} {y : Int32} (hm : m ≤ 6) (ht : t < 64) (K1 : ∀ J : xI, cmP V (rgVal ars V) t m = true → mdT M I J → X T zX10_calm 7 0 0 P 192 [(0, .ref M), (1, .int (nI m)), (2, .int y), (3, .long (lN ab)), (5, .long (lN be)), (7, .int (nI t)), (8, .long (lN w0)), (10, .int 1)] [] (n, sh, 0, 0) J R L) (K2 : ∀ J : xI, cmP V (rgVal ars V) t m = false → mdT M I J → X T zX10_calm 7 0 0 P 192 [(0, .ref M), (1, .int (nI m)), (2, .int y), (3, .long (lN ab)), (5, .long (lN be)), (7, .int (nI t)), (8, .long (lN w0)), (10, .int 0)] [] (n, sh, 0, 0) J R L)  : ∀ (w i : Nat), i + w = m → ∀ (J : xI) (lo : Nat), MS sh R J M (V 8 0) (V 0) (V 1) (cmF V (rgVal ars V) t i) (V 3) (V 4) (V 8 1) (V 8 2 + i) lo (rgVal ars V) → mdT M I J → (∀ k, k < i → held (V 8 0) (cmF V (rgVal ars V) t (k + 1)) (V 8 1) = false) → X T zX10_calm 7 0 0 P 134 [(0, .ref M), (1, .int (nI m)), (2, .int y), (3, .long (lN ab)), (5, .long (lN be)), (7, .int (nI t)), (8, .long (lN w0)), (10, .int 1), (11, .int (nI i))] [] (n, sh, 0, 0) (J) R L := by
  obtain ⟨v6, v12, v10, vb, vf, vw, vm, vta, vte, vod, vrg, vdi⟩ := id hv
  intro w
  induction w with
  | zero =>
    intro i hw J lo hj fj hno9
    have hz : i = m := by omega
    refine x_iload (pc := 134) dX10_calm_134 rfl ?_
    refine x_iload_n (pc := 136) dX10_calm_136 rfl rfl ?_
    refine x_icmpn_ge_t (pc := 137) (tgt := 192) (a := i) (b := m) dX10_calm_137 (by decide) (by omega) (by omega) (by omega) ?_
    exact X.keep [0, 1, 2, 3, 5, 7, 8, 10] rfl (K1 J (decide_eq_true (fun k hk => hno9 k (by omega))) fj)
  | succ w ih =>
    intro i hw J lo hj fj hno9
    have hi : i < m := by omega
    refine x_iload (pc := 134) dX10_calm_134 rfl ?_
    refine x_iload_n (pc := 136) dX10_calm_136 rfl rfl ?_
    refine x_icmpn_ge_f (pc := 137) (tgt := 192) (a := i) (b := m) dX10_calm_137 (by decide) (by omega) (by omega) (by omega) ?_
    refine x_iload (pc := 140) dX10_calm_140 rfl ?_
    refine x_if_eq_f (pc := 142) (tgt := 192) dX10_calm_142 (by decide) (by decide) ?_
    refine x_aload_n (pc := 145) dX10_calm_145 rfl rfl ?_
    refine x_iload (pc := 146) dX10_calm_146 rfl ?_
    refine x_iload (pc := 148) dX10_calm_148 rfl ?_
    refine x_ishr (pc := 150) dX10_calm_150 ?_
    refine x_iconst (pc := 151) (v := 1) dX10_calm_151 (by decide) ?_
    refine x_iand (pc := 152) dX10_calm_152 ?_
    rw [bget_m t ht i (by omega)]
    have hg := @bget_lt t i
    refine x_iconst (pc := 153) (v := 1) dX10_calm_153 (by decide) ?_
    refine x_icmpn_ne (pc := 154) (tgt := 164) (a := (bget t i)) (b := 1) dX10_calm_154 (by decide) (by omega) (by decide) (fun c154 => ?_) (fun c154 => ?_)
    · skip
      have el : cmL (rgVal ars V) t i = 0 := if_neg (by omega)
      have hj2 : MS sh R (up2 J M 29 (nI (0))) M (V 8 0) (V 0) (V 1) (cmF V (rgVal ars V) t i) (V 3) (V 4) (V 8 1) (V 8 2 + i) (cmL (rgVal ars V) t i) (rgVal ars V) := by
        rw [el]
        exact hj.setLoud (by first | exact hlt | decide)
      refine x_iconst (pc := 164) (v := 0) dX10_calm_164 (by decide) ?_
      refine x_put (pc := 165) dX10_calm_165 kf_RX10_98 hM.s rfl (Or.inl kb_10_29) ?_
      refine x_aload_n (pc := 168) dX10_calm_168 rfl rfl ?_
      refine x_callV (pc := 169) (As := []) dX10_calm_169 km_X10_goTenth kv_X10_goTenth kl_RX10_344 hM.s rfl rfl (by decide) ⟨Nat.le_refl _, Nat.le_refl _⟩ rfl (Nat.le_of_ble_eq_true rfl) (Nat.le_of_ble_eq_true rfl) (m_goTenth hj2 (by omega) (fun I2 h3 f2 => ⟨rfl, rfl, ?_⟩))
      have h3 := (show MS sh R I2 M (V 8 0) (V 0) (V 1) (cmF V (rgVal ars V) t (i + 1)) (V 3) (V 4) (V 8 1) (V 8 2 + (i + 1)) (cmL (rgVal ars V) t i) (rgVal ars V) from h3)
      have ff : mdT M I I2 := (fj.tr (mdT.fld (k := 29) (by decide))).tr (mdT.of2 f2)
      refine x_aload_n (pc := 172) dX10_calm_172 rfl rfl ?_
      refine x_callV (pc := 173) (As := []) dX10_calm_173 km_X10_caught kv_X10_caught kl_RX10_347 hM.s rfl rfl (by decide) ⟨Nat.le_refl _, Nat.le_refl _⟩ rfl (Nat.le_of_ble_eq_true rfl) (Nat.le_of_ble_eq_true rfl) (m_caught hM h3.2.2.1 v6 h3.2.2.2.2.2.1 (fun i hi => (h3.2.2.2.2.2.2.2.2.1 i hi).2.2.1) h3.2.2.2.2.2.2.2.2.2.1 vta (fun k hk hkx hkm => ⟨rfl, rfl, ?_⟩) (fun hno => ⟨rfl, rfl, ?_⟩))
      · skip
        refine x_ifn_ge (pc := 176) (tgt := 183) (a := k) dX10_calm_176 (by decide) (by omega) ?_
        refine x_iconst (pc := 183) (v := 0) dX10_calm_183 (by decide) ?_
        refine x_istore (pc := 184) (lv' := [(0, .ref M), (1, .int (nI m)), (2, .int y), (3, .long (lN ab)), (5, .long (lN be)), (7, .int (nI t)), (8, .long (lN w0)), (10, .int 0), (11, .int (nI i))]) dX10_calm_184 (by decide) rfl ?_
        refine x_iinc (pc := 186) (v := nI (i + 1)) (lv' := [(0, .ref M), (1, .int (nI m)), (2, .int y), (3, .long (lN ab)), (5, .long (lN be)), (7, .int (nI t)), (8, .long (lN w0)), (10, .int 0), (11, .int (nI (i + 1)))]) dX10_calm_186 rfl (nI_1 _) (by decide) rfl ?_
        refine x_goto (pc := 189) (tgt := 134) dX10_calm_189 (by decide) ?_
        exact lm_calmD0 hm (by omega) (K2 I2 (decide_eq_false (fun q => by have q1 := q i hi; rw [held_t.mpr ⟨k, hk, hkx⟩] at q1; cases q1)) ff)
      · skip
        refine x_if_ge_f (pc := 176) (tgt := 183) dX10_calm_176 (by decide) (by decide) ?_
        refine x_iconst (pc := 179) (v := 1) dX10_calm_179 (by decide) ?_
        refine x_goto (pc := 180) (tgt := 184) dX10_calm_180 (by decide) ?_
        refine x_istore (pc := 184) (lv' := [(0, .ref M), (1, .int (nI m)), (2, .int y), (3, .long (lN ab)), (5, .long (lN be)), (7, .int (nI t)), (8, .long (lN w0)), (10, .int 1), (11, .int (nI i))]) dX10_calm_184 (by decide) rfl ?_
        refine x_iinc (pc := 186) (v := nI (i + 1)) (lv' := [(0, .ref M), (1, .int (nI m)), (2, .int y), (3, .long (lN ab)), (5, .long (lN be)), (7, .int (nI t)), (8, .long (lN w0)), (10, .int 1), (11, .int (nI (i + 1)))]) dX10_calm_186 rfl (nI_1 _) (by decide) rfl ?_
        refine x_goto (pc := 189) (tgt := 134) dX10_calm_189 (by decide) ?_
        exact ih (i + 1) (by omega) I2 _ h3 ff (fun k hk => (Nat.lt_succ_iff_lt_or_eq.mp hk).elim (hno9 k) (fun e => by subst e; exact held_f hno))
    · skip
      refine x_aload_n (pc := 157) dX10_calm_157 rfl rfl ?_
      refine x_callV (pc := 158) (As := []) dX10_calm_158 km_X10_loudOf kv_X10_loudOf kl_RX10_375 hM.s rfl rfl (by decide) ⟨Nat.le_refl _, Nat.le_refl _⟩ rfl (Nat.le_of_ble_eq_true rfl) (Nat.le_of_ble_eq_true rfl) (m_loudOf hM hj.2.2.2.2.2.2.2.2.2.2.2.2.2.2.2 (⟨rfl, rfl, ?_⟩))
      have hlt := loudO_lt hj.2.2.2.2.2.2.2.2.2.2.2.2.2.2.2
      have el : cmL (rgVal ars V) t i = loudO (rgVal ars V) := if_pos (by omega)
      have hj2 : MS sh R (up2 J M 29 (nI (loudO (rgVal ars V)))) M (V 8 0) (V 0) (V 1) (cmF V (rgVal ars V) t i) (V 3) (V 4) (V 8 1) (V 8 2 + i) (cmL (rgVal ars V) t i) (rgVal ars V) := by
        rw [el]
        exact hj.setLoud (by first | exact hlt | decide)
      refine x_goto (pc := 161) (tgt := 165) dX10_calm_161 (by decide) ?_
      refine x_put (pc := 165) dX10_calm_165 kf_RX10_98 hM.s rfl (Or.inl kb_10_29) ?_
      refine x_aload_n (pc := 168) dX10_calm_168 rfl rfl ?_
      refine x_callV (pc := 169) (As := []) dX10_calm_169 km_X10_goTenth kv_X10_goTenth kl_RX10_344 hM.s rfl rfl (by decide) ⟨Nat.le_refl _, Nat.le_refl _⟩ rfl (Nat.le_of_ble_eq_true rfl) (Nat.le_of_ble_eq_true rfl) (m_goTenth hj2 (by omega) (fun I2 h3 f2 => ⟨rfl, rfl, ?_⟩))
      have h3 := (show MS sh R I2 M (V 8 0) (V 0) (V 1) (cmF V (rgVal ars V) t (i + 1)) (V 3) (V 4) (V 8 1) (V 8 2 + (i + 1)) (cmL (rgVal ars V) t i) (rgVal ars V) from h3)
      have ff : mdT M I I2 := (fj.tr (mdT.fld (k := 29) (by decide))).tr (mdT.of2 f2)
      refine x_aload_n (pc := 172) dX10_calm_172 rfl rfl ?_
      refine x_callV (pc := 173) (As := []) dX10_calm_173 km_X10_caught kv_X10_caught kl_RX10_347 hM.s rfl rfl (by decide) ⟨Nat.le_refl _, Nat.le_refl _⟩ rfl (Nat.le_of_ble_eq_true rfl) (Nat.le_of_ble_eq_true rfl) (m_caught hM h3.2.2.1 v6 h3.2.2.2.2.2.1 (fun i hi => (h3.2.2.2.2.2.2.2.2.1 i hi).2.2.1) h3.2.2.2.2.2.2.2.2.2.1 vta (fun k hk hkx hkm => ⟨rfl, rfl, ?_⟩) (fun hno => ⟨rfl, rfl, ?_⟩))
      · skip
        refine x_ifn_ge (pc := 176) (tgt := 183) (a := k) dX10_calm_176 (by decide) (by omega) ?_
        refine x_iconst (pc := 183) (v := 0) dX10_calm_183 (by decide) ?_
        refine x_istore (pc := 184) (lv' := [(0, .ref M), (1, .int (nI m)), (2, .int y), (3, .long (lN ab)), (5, .long (lN be)), (7, .int (nI t)), (8, .long (lN w0)), (10, .int 0), (11, .int (nI i))]) dX10_calm_184 (by decide) rfl ?_
        refine x_iinc (pc := 186) (v := nI (i + 1)) (lv' := [(0, .ref M), (1, .int (nI m)), (2, .int y), (3, .long (lN ab)), (5, .long (lN be)), (7, .int (nI t)), (8, .long (lN w0)), (10, .int 0), (11, .int (nI (i + 1)))]) dX10_calm_186 rfl (nI_1 _) (by decide) rfl ?_
        refine x_goto (pc := 189) (tgt := 134) dX10_calm_189 (by decide) ?_
        exact lm_calmD0 hm (by omega) (K2 I2 (decide_eq_false (fun q => by have q1 := q i hi; rw [held_t.mpr ⟨k, hk, hkx⟩] at q1; cases q1)) ff)
      · skip
        refine x_if_ge_f (pc := 176) (tgt := 183) dX10_calm_176 (by decide) (by decide) ?_
        refine x_iconst (pc := 179) (v := 1) dX10_calm_179 (by decide) ?_
        refine x_goto (pc := 180) (tgt := 184) dX10_calm_180 (by decide) ?_
        refine x_istore (pc := 184) (lv' := [(0, .ref M), (1, .int (nI m)), (2, .int y), (3, .long (lN ab)), (5, .long (lN be)), (7, .int (nI t)), (8, .long (lN w0)), (10, .int 1), (11, .int (nI i))]) dX10_calm_184 (by decide) rfl ?_
        refine x_iinc (pc := 186) (v := nI (i + 1)) (lv' := [(0, .ref M), (1, .int (nI m)), (2, .int y), (3, .long (lN ab)), (5, .long (lN be)), (7, .int (nI t)), (8, .long (lN w0)), (10, .int 1), (11, .int (nI (i + 1)))]) dX10_calm_186 rfl (nI_1 _) (by decide) rfl ?_
        refine x_goto (pc := 189) (tgt := 134) dX10_calm_189 (by decide) ?_
        exact ih (i + 1) (by omega) I2 _ h3 ff (fun k hk => (Nat.lt_succ_iff_lt_or_eq.mp hk).elim (hno9 k) (fun e => by subst e; exact held_f hno))

set_option maxHeartbeats 4000000 in
set_option maxRecDepth 100000 in
theorem lm_calmY {T : xT} {n : Nat} {sh : Nat → Nat × Nat} {I : xI} {R : xR} {L : xL} {P : xPost} {M m t ab be w0 : Nat} {y : Int32} (ht : t < 64) (K : X T zX10_calm 7 0 0 P 56 [(0, .ref M), (1, .int (nI m)), (2, .int y), (3, .long (lN (ab + w0))), (5, .long (lN be)), (7, .int (nI (t + 1)))] [] (n, sh, 0, 0) I R L)  :  X T zX10_calm 7 0 0 P 192 [(0, .ref M), (1, .int (nI m)), (2, .int y), (3, .long (lN ab)), (5, .long (lN be)), (7, .int (nI t)), (8, .long (lN w0)), (10, .int 1)] [] (n, sh, 0, 0) (I) R L := by
  refine x_lload_n (pc := 192) dX10_calm_192 rfl rfl ?_
  refine x_iload (pc := 193) dX10_calm_193 rfl ?_
  refine x_if_eq_f (pc := 195) (tgt := 203) dX10_calm_195 (by decide) (by decide) ?_
  refine x_lload (pc := 198) dX10_calm_198 rfl ?_
  refine x_goto (pc := 200) (tgt := 204) dX10_calm_200 (by decide) ?_
  refine x_ladd (pc := 204) dX10_calm_204 ?_
  rw [lN_add]
  refine x_lstore_n (pc := 205) (lv' := [(0, .ref M), (1, .int (nI m)), (2, .int y), (3, .long (lN (ab + w0))), (5, .long (lN be)), (7, .int (nI t)), (8, .long (lN w0)), (10, .int 1)]) dX10_calm_205 rfl (by decide) rfl ?_
  refine x_iinc (pc := 206) (v := nI (t + 1)) (lv' := [(0, .ref M), (1, .int (nI m)), (2, .int y), (3, .long (lN (ab + w0))), (5, .long (lN be)), (7, .int (nI (t + 1))), (8, .long (lN w0)), (10, .int 1)]) dX10_calm_206 rfl (nI_1 _) (by decide) rfl ?_
  refine x_goto (pc := 209) (tgt := 56) dX10_calm_209 (by decide) ?_
  exact X.keep [0, 1, 2, 3, 5, 7] rfl K

set_option maxHeartbeats 4000000 in
set_option maxRecDepth 100000 in
theorem lm_calmN {T : xT} {n : Nat} {sh : Nat → Nat × Nat} {I : xI} {R : xR} {L : xL} {P : xPost} {M m t ab be w0 : Nat} {y : Int32} (ht : t < 64) (K : X T zX10_calm 7 0 0 P 56 [(0, .ref M), (1, .int (nI m)), (2, .int y), (3, .long (lN (ab))), (5, .long (lN be)), (7, .int (nI (t + 1)))] [] (n, sh, 0, 0) I R L)  :  X T zX10_calm 7 0 0 P 192 [(0, .ref M), (1, .int (nI m)), (2, .int y), (3, .long (lN ab)), (5, .long (lN be)), (7, .int (nI t)), (8, .long (lN w0)), (10, .int 0)] [] (n, sh, 0, 0) (I) R L := by
  refine x_lload_n (pc := 192) dX10_calm_192 rfl rfl ?_
  refine x_iload (pc := 193) dX10_calm_193 rfl ?_
  refine x_if_eq_t (pc := 195) (tgt := 203) dX10_calm_195 (by decide) (by decide) ?_
  refine x_lconst (pc := 203) (v := 0) dX10_calm_203 (by decide) ?_
  refine x_ladd (pc := 204) dX10_calm_204 ?_
  rw [lN_0]
  refine x_lstore_n (pc := 205) (lv' := [(0, .ref M), (1, .int (nI m)), (2, .int y), (3, .long (lN ab)), (5, .long (lN be)), (7, .int (nI t)), (8, .long (lN w0)), (10, .int 0)]) dX10_calm_205 rfl (by decide) rfl ?_
  refine x_iinc (pc := 206) (v := nI (t + 1)) (lv' := [(0, .ref M), (1, .int (nI m)), (2, .int y), (3, .long (lN ab)), (5, .long (lN be)), (7, .int (nI (t + 1))), (8, .long (lN w0)), (10, .int 0)]) dX10_calm_206 rfl (nI_1 _) (by decide) rfl ?_
  refine x_goto (pc := 209) (tgt := 56) dX10_calm_209 (by decide) ?_
  exact X.keep [0, 1, 2, 3, 5, 7] rfl K

set_option maxHeartbeats 4000000 in
set_option maxRecDepth 100000 in
theorem lm_calmX {T : xT} {n : Nat} {sh : Nat → Nat × Nat} {I : xI} {R : xR} {L : xL} {P : xPost} {M : Nat} (hM : xModel sh R M) {V : xV} {B rc : Nat} {ars : Nat → xAR} (h : MDV I M V) (hv : VOK V B) (hB : B < 800000) (hr : mRings I M rc ars) (hV6 : V 8 6 ≤ rc) {m t ab be : Nat} {y : Int32} (hm : m ≤ 6) (ht : t < 64) (K : ∀ J : xI, mdT M I J → X T zX10_calm 7 0 0 P 56 [(0, .ref M), (1, .int (nI m)), (2, .int y), (3, .long (lN (ab + cmS V (rgVal ars V) m t))), (5, .long (lN be)), (7, .int (nI (t + 1)))] [] (n, sh, 0, 0) J R L)  :  X T zX10_calm 7 0 0 P 114 [(0, .ref M), (1, .int (nI m)), (2, .int y), (3, .long (lN ab)), (5, .long (lN be)), (7, .int (nI t)), (8, .long (lN (wtF (V 8 3) t m)))] [] (n, sh, 0, 0) (I) R L := by
  obtain ⟨v6, v12, v10, vb, vf, vw, vm, vta, vte, vod, vrg, vdi⟩ := id hv
  have w6 := wt_le (V 8 3) (by omega) m (by omega) t ht
  refine x_lload (pc := 114) dX10_calm_114 rfl ?_
  refine x_lconst (pc := 116) (v := 0) dX10_calm_116 (by decide) ?_
  refine x_lcmp (pc := 117) dX10_calm_117 ?_
  refine x_if_ne (pc := 118) (tgt := 124) dX10_calm_118 (by decide) (fun c118 => ?_) (fun c118 => ?_)
  · skip
    refine x_aload_n (pc := 124) dX10_calm_124 rfl rfl ?_
    refine x_callV (pc := 125) (As := []) dX10_calm_125 km_X10_asIs kv_X10_asIs kl_RX10_338 hM.s rfl rfl (by decide) ⟨Nat.le_refl _, Nat.le_refl _⟩ rfl (Nat.le_of_ble_eq_true rfl) (Nat.le_of_ble_eq_true rfl) (m_asIs hM (fun I2 k1 k2 k3 k4 k5 k6 k7 => ⟨rfl, rfl, ?_⟩))
    have hms := h.toMS hM hv hB hr hV6 k1 k2 k3 k4 k5 k6 k7
    refine x_iconst (pc := 128) (v := 1) dX10_calm_128 (by decide) ?_
    refine x_istore (pc := 129) (lv' := [(0, .ref M), (1, .int (nI m)), (2, .int y), (3, .long (lN ab)), (5, .long (lN be)), (7, .int (nI t)), (8, .long (lN (wtF (V 8 3) t m))), (10, .int 1)]) dX10_calm_129 (by decide) rfl ?_
    refine x_iconst (pc := 131) (v := 0) dX10_calm_131 (by decide) ?_
    refine x_istore (pc := 132) (lv' := [(0, .ref M), (1, .int (nI m)), (2, .int y), (3, .long (lN ab)), (5, .long (lN be)), (7, .int (nI t)), (8, .long (lN (wtF (V 8 3) t m))), (10, .int 1), (11, .int 0)]) dX10_calm_132 (by decide) rfl ?_
    refine lm_calmD (V := V) (B := B) (ars := ars) hM hv hB (w0 := wtF (V 8 3) t m) hm ht (fun J hc f2 => ?_) (fun J hc f2 => ?_) m 0 (by omega) I2 0 hms mdT.rf (fun k hk => absurd hk (by omega))
    · have h9 := K J ((mdT.asIs k1 k2).tr f2)
      rw [show cmS V (rgVal ars V) m t = wtF (V 8 3) t m from if_pos hc] at h9
      exact lm_calmY ht h9
    · have h9 := K J ((mdT.asIs k1 k2).tr f2)
      rw [show cmS V (rgVal ars V) m t = 0 from if_neg (by rw [hc]; decide)] at h9
      exact lm_calmN ht h9
  · skip
    refine x_goto (pc := 121) (tgt := 206) dX10_calm_121 (by decide) ?_
    refine x_iinc (pc := 206) (v := nI (t + 1)) (lv' := [(0, .ref M), (1, .int (nI m)), (2, .int y), (3, .long (lN ab)), (5, .long (lN be)), (7, .int (nI (t + 1))), (8, .long (lN (wtF (V 8 3) t m)))]) dX10_calm_206 rfl (nI_1 _) (by decide) rfl ?_
    refine x_goto (pc := 209) (tgt := 56) dX10_calm_209 (by decide) ?_
    have z : wtF (V 8 3) t m = 0 := (lcmp0 (by omega)).mp c118
    have h9 := K I mdT.rf
    rw [cmS_0 z] at h9
    exact X.keep [0, 1, 2, 3, 5, 7] rfl h9

set_option maxHeartbeats 4000000 in
set_option maxRecDepth 100000 in
theorem lm_calmB {T : xT} {n : Nat} {sh : Nat → Nat × Nat} {I : xI} {R : xR} {L : xL} {P : xPost} {M : Nat} (hM : xModel sh R M) {V : xV} {B rc : Nat} {ars : Nat → xAR} (h : MDV I M V) (hv : VOK V B) (hB : B < 800000) (hr : mRings I M rc ars) (hV6 : V 8 6 ≤ rc) {m be : Nat} {y : Int32} (hm : m ≤ 6) (K : ∀ J : xI, mdT M I J → X T zX10_calm 7 0 0 P 212 [(0, .ref M), (1, .int (nI m)), (2, .int y), (3, .long (lN (abF V (rgVal ars V) m (2 ^ m)))), (5, .long (lN be))] [] (n, sh, 0, 0) J R L)  : ∀ (w i : Nat), i + w = 2 ^ m → ∀ (J : xI), mdT M I J → X T zX10_calm 7 0 0 P 56 [(0, .ref M), (1, .int (nI m)), (2, .int y), (3, .long (lN (abF V (rgVal ars V) m i))), (5, .long (lN be)), (7, .int (nI i))] [] (n, sh, 0, 0) (J) R L := by
  obtain ⟨v6, v12, v10, vb, vf, vw, vm, vta, vte, vod, vrg, vdi⟩ := id hv
  have hp := pw64 hm
  intro w
  induction w with
  | zero =>
    intro i hw J fj
    have hz : i = 2 ^ m := by omega
    refine x_iload (pc := 56) dX10_calm_56 rfl ?_
    refine x_iconst (pc := 58) (v := 1) dX10_calm_58 (by decide) ?_
    refine x_iload_n (pc := 59) dX10_calm_59 rfl rfl ?_
    refine x_ishl (pc := 60) dX10_calm_60 ?_
    rw [sh1 m (by omega)]
    refine x_icmpn_ge_t (pc := 61) (tgt := 212) (a := i) (b := (2 ^ m)) dX10_calm_61 (by decide) (by omega) (by omega) (by omega) ?_
    rw [hz]
    exact X.keep [0, 1, 2, 3, 5] rfl (K J fj)
  | succ w ih =>
    intro i hw J fj
    have hi : i < 2 ^ m := by omega
    refine x_iload (pc := 56) dX10_calm_56 rfl ?_
    refine x_iconst (pc := 58) (v := 1) dX10_calm_58 (by decide) ?_
    refine x_iload_n (pc := 59) dX10_calm_59 rfl rfl ?_
    refine x_ishl (pc := 60) dX10_calm_60 ?_
    rw [sh1 m (by omega)]
    refine x_icmpn_ge_f (pc := 61) (tgt := 212) (a := i) (b := (2 ^ m)) dX10_calm_61 (by decide) (by omega) (by omega) (by omega) ?_
    refine x_lconst (pc := 64) (v := 1) dX10_calm_64 (by decide) ?_
    refine x_lstore (pc := 65) (lv' := [(0, .ref M), (1, .int (nI m)), (2, .int y), (3, .long (lN (abF V (rgVal ars V) m i))), (5, .long (lN be)), (7, .int (nI i)), (8, .long 1)]) dX10_calm_65 (by decide) rfl ?_
    refine x_iconst (pc := 67) (v := 0) dX10_calm_67 (by decide) ?_
    refine x_istore (pc := 68) (lv' := [(0, .ref M), (1, .int (nI m)), (2, .int y), (3, .long (lN (abF V (rgVal ars V) m i))), (5, .long (lN be)), (7, .int (nI i)), (8, .long 1), (10, .int 0)]) dX10_calm_68 (by decide) rfl ?_
    have hmd := h.keepT fj
    refine lm_calmW (od := V 8 3) hM hm (show i < 64 by omega) hmd.2.2.2.1 vod ?_ m 0 (by omega)
    refine lm_calmX hM hmd hv hB (hr.keep fj.mdP) hV6 hm (show i < 64 by omega) (fun J2 f2 => ?_)
    exact ih (i + 1) (by omega) J2 (fj.tr f2)

set_option maxHeartbeats 4000000 in
set_option maxRecDepth 100000 in
theorem lm_gcd {T : xT} {n : Nat} {sh : Nat → Nat × Nat} {I : xI} {R : xR} {L : xL} {P : xPost} {M A B : Nat} (hA : A < 2 ^ 40) (hB : B ≤ 1000000) (K : P (n, sh, 0, 0) I R L (some (.long (lN (Nat.gcd B A))))) {z0 : Nat}  : ∀ (w i : Nat), i + w = z0 → ∀ (p q : Nat), q ≤ w → p < 2 ^ 40 → q ≤ 1000000 → Nat.gcd q p = Nat.gcd B A → X T zX10_divisor 0 0 0 P 6 [(0, .ref M), (1, .long (lN A)), (3, .long (lN B)), (5, .long (lN p)), (7, .long (lN q))] [] (n, sh, 0, 0) (I) R L := by
  intro w
  induction w with
  | zero =>
    intro i hw p q hqw hp40 hq6 he
    have hz : i = z0 := by omega
    refine x_lload (pc := 6) dX10_divisor_6 rfl ?_
    refine x_lconst (pc := 8) (v := 0) dX10_divisor_8 (by decide) ?_
    refine x_lcmp (pc := 9) dX10_divisor_9 ?_
    refine x_if_eq_t (pc := 10) (tgt := 31) dX10_divisor_10 (by decide) ((lcmp0 (by omega)).mpr (by omega)) ?_
    refine x_lload (pc := 31) dX10_divisor_31 rfl ?_
    refine x_lreturn (pc := 33) dX10_divisor_33 rfl ⟨Nat.le_refl _, Nat.le_refl _⟩ ?_
    have q0 : q = 0 := by omega
    rw [q0, Nat.gcd_zero_left] at he
    rw [he]
    exact K
  | succ w ih =>
    intro i hw p q hqw hp40 hq6 he
    have hi : i < z0 := by omega
    refine x_lload (pc := 6) dX10_divisor_6 rfl ?_
    refine x_lconst (pc := 8) (v := 0) dX10_divisor_8 (by decide) ?_
    refine x_lcmp (pc := 9) dX10_divisor_9 ?_
    refine x_if_eq (pc := 10) (tgt := 31) dX10_divisor_10 (by decide) (fun c10 => ?_) (fun c10 => ?_)
    · skip
      refine x_lload (pc := 31) dX10_divisor_31 rfl ?_
      refine x_lreturn (pc := 33) dX10_divisor_33 rfl ⟨Nat.le_refl _, Nat.le_refl _⟩ ?_
      have q0 : q = 0 := (lcmp0 (by omega)).mp c10
      rw [q0, Nat.gcd_zero_left] at he
      rw [he]
      exact K
    · skip
      have q0 : ¬ q = 0 := fun z => c10 ((lcmp0 (by omega)).mpr z)
      have hl : p % q < q := Nat.mod_lt _ (by omega)
      refine x_lload (pc := 13) dX10_divisor_13 rfl ?_
      refine x_lload (pc := 15) dX10_divisor_15 rfl ?_
      refine x_lrem (pc := 17) dX10_divisor_17 (fun z => q0 ((pk_lEQ (b := 0) (by omega) (by decide)).mp z)) ?_
      rw [pk_lRem (by omega) (by omega) (by omega)]
      refine x_lstore (pc := 18) (lv' := [(0, .ref M), (1, .long (lN A)), (3, .long (lN B)), (5, .long (lN p)), (7, .long (lN q)), (9, .long (lN (p % q)))]) dX10_divisor_18 (by decide) rfl ?_
      refine x_lload (pc := 20) dX10_divisor_20 rfl ?_
      refine x_lstore (pc := 22) (lv' := [(0, .ref M), (1, .long (lN A)), (3, .long (lN B)), (5, .long (lN q)), (7, .long (lN q)), (9, .long (lN (p % q)))]) dX10_divisor_22 (by decide) rfl ?_
      refine x_lload (pc := 24) dX10_divisor_24 rfl ?_
      refine x_lstore (pc := 26) (lv' := [(0, .ref M), (1, .long (lN A)), (3, .long (lN B)), (5, .long (lN q)), (7, .long (lN (p % q))), (9, .long (lN (p % q)))]) dX10_divisor_26 (by decide) rfl ?_
      refine x_goto (pc := 28) (tgt := 6) dX10_divisor_28 (by decide) ?_
      exact X.keep [0, 1, 3, 5, 7] rfl (ih (i + 1) (by omega) q (p % q) (by omega) (by omega) (by omega) (gc_eq.trans he))

set_option maxHeartbeats 4000000 in
set_option maxRecDepth 100000 in
theorem m_divisor {T : xT} {n : Nat} {sh : Nat → Nat × Nat} {I : xI} {R : xR} {L : xL} {P : xPost} {M A B : Nat} (hA : A < 2 ^ 40) (hB : B ≤ 1000000) (K : P (n, sh, 0, 0) I R L (some (.long (lN (Nat.gcd B A)))))  : XM T zX10_divisor 0 [.ref M, .long (lN A), .long (lN B)] n sh I R L P := by
  refine x_lload_n (pc := 0) dX10_divisor_0 rfl rfl ?_
  refine x_lstore (pc := 1) (lv' := [(0, .ref M), (1, .long (lN A)), (3, .long (lN B)), (5, .long (lN A))]) dX10_divisor_1 (by decide) rfl ?_
  refine x_lload_n (pc := 3) dX10_divisor_3 rfl rfl ?_
  refine x_lstore (pc := 4) (lv' := [(0, .ref M), (1, .long (lN A)), (3, .long (lN B)), (5, .long (lN A)), (7, .long (lN B))]) dX10_divisor_4 (by decide) rfl ?_
  exact lm_gcd hA hB K (z0 := B) B 0 (by omega) A B (Nat.le_refl _) hA hB rfl

set_option maxHeartbeats 4000000 in
set_option maxRecDepth 100000 in
theorem lm_calmE0 {T : xT} {n : Nat} {sh : Nat → Nat × Nat} {I : xI} {R : xR} {L : xL} {P : xPost} {M : Nat} (hM : xModel sh R M) {V : xV} {B : Nat} {ars : Nat → xAR} (hv : VOK V B) {m : Nat} (h1m : 1 ≤ m) (hm : m ≤ 6) (K : P (n, sh, 0, 0) I R L (some (.long (spCalm V (rgVal ars V) (nI m) 0))))  :  X T zX10_calm 7 0 0 P 212 [(0, .ref M), (1, .int (nI m)), (2, .int 0), (3, .long (lN (abF V (rgVal ars V) m (2 ^ m)))), (5, .long (lN (10 ^ m)))] [] (n, sh, 0, 0) (I) R L := by
  obtain ⟨v6, v12, v10, vb, vf, vw, vm, vta, vte, vod, vrg, vdi⟩ := id hv
  have hp := pw64 hm
  have ha := abF_le (o := (rgVal ars V)) (m := m) vod (by omega) (2 ^ m) hp
  have hb := pw10 hm
  have hgp : 0 < Nat.gcd (10 ^ m) (abF V (rgVal ars V) m (2 ^ m)) := Nat.gcd_pos_of_pos_left _ (Nat.pow_pos (by decide))
  have hgl : Nat.gcd (10 ^ m) (abF V (rgVal ars V) m (2 ^ m)) ≤ 10 ^ m := Nat.gcd_le_left _ (Nat.pow_pos (by decide))
  refine x_aload_n (pc := 212) dX10_calm_212 rfl rfl ?_
  refine x_lload_n (pc := 213) dX10_calm_213 rfl rfl ?_
  refine x_lload (pc := 214) dX10_calm_214 rfl ?_
  refine x_callV (pc := 216) (As := [.long _, .long _]) dX10_calm_216 km_X10_divisor kv_X10_divisor kl_RX10_378 hM.s rfl rfl (by decide) ⟨Nat.le_refl _, Nat.le_refl _⟩ rfl (Nat.le_of_ble_eq_true rfl) (Nat.le_of_ble_eq_true rfl) (m_divisor (A := abF V (rgVal ars V) m (2 ^ m)) (B := 10 ^ m) (by omega) (pw10 hm) (⟨rfl, rfl, ?_⟩))
  refine x_lstore (pc := 219) (lv' := [(0, .ref M), (1, .int (nI m)), (2, .int 0), (3, .long (lN (abF V (rgVal ars V) m (2 ^ m)))), (5, .long (lN (10 ^ m))), (7, .long (lN (Nat.gcd (10 ^ m) (abF V (rgVal ars V) m (2 ^ m)))))]) dX10_calm_219 (by decide) rfl ?_
  refine x_iload_n (pc := 221) dX10_calm_221 rfl rfl ?_
  refine x_if_ne_f (pc := 222) (tgt := 232) dX10_calm_222 (by decide) (by decide) ?_
  refine x_lload_n (pc := 225) dX10_calm_225 rfl rfl ?_
  refine x_lload (pc := 226) dX10_calm_226 rfl ?_
  refine x_ldiv (pc := 228) dX10_calm_228 (fun q => absurd ((pk_lEQ (b := 0) (by omega) (by decide)).mp q) (by omega)) ?_
  refine x_goto (pc := 229) (tgt := 237) dX10_calm_229 (by decide) ?_
  refine x_lreturn (pc := 237) dX10_calm_237 rfl ⟨Nat.le_refl _, Nat.le_refl _⟩ ?_
  rw [spCalm_0 h1m hm] at K
  rw [pk_lDiv (by omega) hgp (by omega)]
  exact K

set_option maxHeartbeats 4000000 in
set_option maxRecDepth 100000 in
theorem lm_calmE1 {T : xT} {n : Nat} {sh : Nat → Nat × Nat} {I : xI} {R : xR} {L : xL} {P : xPost} {M : Nat} (hM : xModel sh R M) {V : xV} {B : Nat} {ars : Nat → xAR} (hv : VOK V B) {m : Nat} (h1m : 1 ≤ m) (hm : m ≤ 6) (K : P (n, sh, 0, 0) I R L (some (.long (spCalm V (rgVal ars V) (nI m) 1))))  :  X T zX10_calm 7 0 0 P 212 [(0, .ref M), (1, .int (nI m)), (2, .int 1), (3, .long (lN (abF V (rgVal ars V) m (2 ^ m)))), (5, .long (lN (10 ^ m)))] [] (n, sh, 0, 0) (I) R L := by
  obtain ⟨v6, v12, v10, vb, vf, vw, vm, vta, vte, vod, vrg, vdi⟩ := id hv
  have hp := pw64 hm
  have ha := abF_le (o := (rgVal ars V)) (m := m) vod (by omega) (2 ^ m) hp
  have hb := pw10 hm
  have hgp : 0 < Nat.gcd (10 ^ m) (abF V (rgVal ars V) m (2 ^ m)) := Nat.gcd_pos_of_pos_left _ (Nat.pow_pos (by decide))
  have hgl : Nat.gcd (10 ^ m) (abF V (rgVal ars V) m (2 ^ m)) ≤ 10 ^ m := Nat.gcd_le_left _ (Nat.pow_pos (by decide))
  refine x_aload_n (pc := 212) dX10_calm_212 rfl rfl ?_
  refine x_lload_n (pc := 213) dX10_calm_213 rfl rfl ?_
  refine x_lload (pc := 214) dX10_calm_214 rfl ?_
  refine x_callV (pc := 216) (As := [.long _, .long _]) dX10_calm_216 km_X10_divisor kv_X10_divisor kl_RX10_378 hM.s rfl rfl (by decide) ⟨Nat.le_refl _, Nat.le_refl _⟩ rfl (Nat.le_of_ble_eq_true rfl) (Nat.le_of_ble_eq_true rfl) (m_divisor (A := abF V (rgVal ars V) m (2 ^ m)) (B := 10 ^ m) (by omega) (pw10 hm) (⟨rfl, rfl, ?_⟩))
  refine x_lstore (pc := 219) (lv' := [(0, .ref M), (1, .int (nI m)), (2, .int 1), (3, .long (lN (abF V (rgVal ars V) m (2 ^ m)))), (5, .long (lN (10 ^ m))), (7, .long (lN (Nat.gcd (10 ^ m) (abF V (rgVal ars V) m (2 ^ m)))))]) dX10_calm_219 (by decide) rfl ?_
  refine x_iload_n (pc := 221) dX10_calm_221 rfl rfl ?_
  refine x_if_ne_t (pc := 222) (tgt := 232) dX10_calm_222 (by decide) (by decide) ?_
  refine x_lload (pc := 232) dX10_calm_232 rfl ?_
  refine x_lload (pc := 234) dX10_calm_234 rfl ?_
  refine x_ldiv (pc := 236) dX10_calm_236 (fun q => absurd ((pk_lEQ (b := 0) (by omega) (by decide)).mp q) (by omega)) ?_
  refine x_lreturn (pc := 237) dX10_calm_237 rfl ⟨Nat.le_refl _, Nat.le_refl _⟩ ?_
  rw [spCalm_1 h1m hm] at K
  rw [pk_lDiv (by omega) hgp (by omega)]
  exact K

set_option maxHeartbeats 4000000 in
set_option maxRecDepth 100000 in
theorem lm_calmZ {T : xT} {n : Nat} {sh : Nat → Nat × Nat} {I : xI} {R : xR} {L : xL} {P : xPost} {M : Nat} (hM : xModel sh R M) {V : xV} {B rc : Nat} {ars : Nat → xAR} (h : MDV I M V) (hv : VOK V B) (hB : B < 800000) (hr : mRings I M rc ars) (hV6 : V 8 6 ≤ rc) {m be : Nat} {y : Int32} (hm : m ≤ 6) (K : ∀ J : xI, mdT M I J → X T zX10_calm 7 0 0 P 212 [(0, .ref M), (1, .int (nI m)), (2, .int y), (3, .long (lN (abF V (rgVal ars V) m (2 ^ m)))), (5, .long (lN be))] [] (n, sh, 0, 0) J R L)  :  X T zX10_calm 7 0 0 P 53 [(0, .ref M), (1, .int (nI m)), (2, .int y), (3, .long 0), (5, .long (lN be))] [] (n, sh, 0, 0) (I) R L := by
  refine x_iconst (pc := 53) (v := 0) dX10_calm_53 (by decide) ?_
  refine x_istore (pc := 54) (lv' := [(0, .ref M), (1, .int (nI m)), (2, .int y), (3, .long 0), (5, .long (lN be)), (7, .int 0)]) dX10_calm_54 (by decide) rfl ?_
  exact lm_calmB hM h hv hB hr hV6 hm K (2 ^ m) 0 (by omega) I mdT.rf

set_option maxHeartbeats 4000000 in
set_option maxRecDepth 100000 in
theorem m_calm {T : xT} {n : Nat} {sh : Nat → Nat × Nat} {I : xI} {R : xR} {L : xL} {P : xPost} {M : Nat} (hM : xModel sh R M) {V : xV} {B rc : Nat} {ars : Nat → xAR} (h : MDV I M V) (hv : VOK V B) (hB : B < 800000) (hr : mRings I M rc ars) (hV6 : V 8 6 ≤ rc) {x y : Int32} (K : ∀ I2 : xI, MDV I2 M V → mdP M I I2 → P (n, sh, 0, 0) I2 R L (some (.long (spCalm V (rgVal ars V) x y))))  : XM T zX10_calm 7 [.ref M, .int x, .int y] n sh I R L P := by
  refine x_aload_n (pc := 0) dX10_calm_0 rfl rfl ?_
  refine x_iload_n (pc := 1) dX10_calm_1 rfl rfl ?_
  refine x_iconst (pc := 2) (v := 1) dX10_calm_2 (by decide) ?_
  refine x_bipush (pc := 3) (v := 6) dX10_calm_3 (by decide) ?_
  refine x_callV (pc := 5) (As := [.int _, .int _, .int _]) dX10_calm_5 km_X10_in kv_X10_in kl_RX10_231 hM.s rfl rfl (by decide) ⟨Nat.le_refl _, Nat.le_refl _⟩ rfl (Nat.le_of_ble_eq_true rfl) (Nat.le_of_ble_eq_true rfl) (m_in hM.s (fun p1 p2 => ⟨rfl, rfl, ?_⟩) (fun g1 => ⟨rfl, rfl, ?_⟩))
  · skip
    obtain ⟨m, h1m, hm, em⟩ := m1_k p1 p2
    subst em
    refine x_if_eq_f (pc := 8) (tgt := 21) dX10_calm_8 (by decide) (by decide) ?_
    refine x_aload_n (pc := 11) dX10_calm_11 rfl rfl ?_
    refine x_iload_n (pc := 12) dX10_calm_12 rfl rfl ?_
    refine x_iconst (pc := 13) (v := 0) dX10_calm_13 (by decide) ?_
    refine x_iconst (pc := 14) (v := 1) dX10_calm_14 (by decide) ?_
    refine x_callV (pc := 15) (As := [.int _, .int _, .int _]) dX10_calm_15 km_X10_in kv_X10_in kl_RX10_231 hM.s rfl rfl (by decide) ⟨Nat.le_refl _, Nat.le_refl _⟩ rfl (Nat.le_of_ble_eq_true rfl) (Nat.le_of_ble_eq_true rfl) (m_in hM.s (fun p3 p4 => ⟨rfl, rfl, ?_⟩) (fun g2 => ⟨rfl, rfl, ?_⟩))
    · skip
      refine x_if_ne_t (pc := 18) (tgt := 25) dX10_calm_18 (by decide) (by decide) ?_
      refine x_lconst (pc := 25) (v := 0) dX10_calm_25 (by decide) ?_
      refine x_lstore_n (pc := 26) (lv' := [(0, .ref M), (1, .int (nI m)), (2, .int y), (3, .long 0)]) dX10_calm_26 rfl (by decide) rfl ?_
      refine x_lconst (pc := 27) (v := 1) dX10_calm_27 (by decide) ?_
      refine x_lstore (pc := 28) (lv' := [(0, .ref M), (1, .int (nI m)), (2, .int y), (3, .long 0), (5, .long 1)]) dX10_calm_28 (by decide) rfl ?_
      refine x_iconst (pc := 30) (v := 0) dX10_calm_30 (by decide) ?_
      refine x_istore (pc := 31) (lv' := [(0, .ref M), (1, .int (nI m)), (2, .int y), (3, .long 0), (5, .long 1), (7, .int 0)]) dX10_calm_31 (by decide) rfl ?_
      refine lm_calmA hm ?_ m 0 (by omega)
      refine lm_calmZ hM h hv hB hr hV6 hm (fun J f2 => ?_)
      rcases i01 p3 p4 with ey | ey <;> subst ey
      · exact lm_calmE0 hM hv h1m hm (K J (h.keepT f2) f2.mdP)
      · exact lm_calmE1 hM hv h1m hm (K J (h.keepT f2) f2.mdP)
    · skip
      refine x_if_ne_f (pc := 18) (tgt := 25) dX10_calm_18 (by decide) (by decide) ?_
      refine x_ldc2 (pc := 21) (v := -9223372036854775808) dX10_calm_21 kk_RX10_371 ?_
      refine x_lreturn (pc := 24) dX10_calm_24 rfl ⟨Nat.le_refl _, Nat.le_refl _⟩ ?_
      have e9 : spCalm V (rgVal ars V) (nI m) y = -9223372036854775808 := spCalm_n (by first | exact Or.inl g1 | exact Or.inr g2)
      have h9 := K I h mdP.rf
      rw [e9] at h9
      exact h9
  · skip
    refine x_if_eq_t (pc := 8) (tgt := 21) dX10_calm_8 (by decide) (by decide) ?_
    refine x_ldc2 (pc := 21) (v := -9223372036854775808) dX10_calm_21 kk_RX10_371 ?_
    refine x_lreturn (pc := 24) dX10_calm_24 rfl ⟨Nat.le_refl _, Nat.le_refl _⟩ ?_
    have e9 : spCalm V (rgVal ars V) (x) y = -9223372036854775808 := spCalm_n (by first | exact Or.inl g1 | exact Or.inr g2)
    have h9 := K I h mdP.rf
    rw [e9] at h9
    exact h9

