/-! ===== a RING as a value: its clauses: how many, words (0 yield, 1 come, 2 loud), numbers, when they hold ===== -/
abbrev xAR : Type := Nat × (Nat → Nat) × (Nat → Nat) × (Nat → Nat → Nat → Nat → Nat → Nat → Bool)
def sumA (ar : xAR) (w a1 a2 a3 a4 a5 : Nat) : Nat → Nat
  | 0 => 0
  | k + 1 => sumA ar w a1 a2 a3 a4 a5 k + (if ar.2.1 k = w ∧ ar.2.2.2 k a1 a2 a3 a4 a5 = true then ar.2.2.1 k else 0)
def lnOf (ar : xAR) : xLN := fun a1 a2 a3 a4 a5 => (sumA ar 0 a1 a2 a3 a4 a5 ar.1, sumA ar 1 a1 a2 a3 a4 a5 ar.1)
def loudA (ar : xAR) : Nat → Nat
  | 0 => 1
  | k + 1 => if ar.2.1 k = 2 then ar.2.2.1 k else loudA ar k
def lnO (o : Option xAR) : xLN := match o with
  | none => fun _ _ _ _ _ => (0, 0)
  | some ar => lnOf ar
def loudO (o : Option xAR) : Nat := match o with
  | none => 1
  | some ar => loudA ar ar.1
def mdRing (I : xI) (M t : Nat) (ar : xAR) : Prop := t < 6 ∧ ar.1 ≤ 8 ∧ I (M + 8) t = nI ar.1 ∧ ∀ c, c < ar.1 → ar.2.1 c ≤ 2 ∧ ar.2.2.1 c < 100 ∧ I (M + 9) (8 * t + c) = nI (ar.2.1 c) ∧ I (M + 10) (8 * t + c) = nI (ar.2.2.1 c) ∧
  (ar.2.1 c < 2 → ∃ fr kk, I (M + 11) (8 * t + c) = nI fr ∧ I (M + 12) (8 * t + c) = nI (fr + kk) ∧ fr + kk ≤ 600 ∧ ∀ a1 a2 a3 a4 a5, evM a1 a2 a3 a4 a5 (I (M + 13)) fr kk = some [ar.2.2.2 c a1 a2 a3 a4 a5])
def mdLines (I : xI) (M : Nat) (o : Option xAR) : Prop := match o with
  | none => I M 11 = -1
  | some ar => ∃ t, I M 11 = nI t ∧ mdRing I M t ar
theorem sumA_le {ar : xAR} {w a1 a2 a3 a4 a5 : Nat} (h : ∀ c, c < ar.1 → ar.2.2.1 c < 100) : ∀ k, k ≤ ar.1 → sumA ar w a1 a2 a3 a4 a5 k ≤ 100 * k
  | 0, _ => Nat.le_refl 0
  | k + 1, hk => by
    have ih := sumA_le (w := w) (a1 := a1) (a2 := a2) (a3 := a3) (a4 := a4) (a5 := a5) h k (by omega)
    have h1 := h k (by omega)
    show sumA ar w a1 a2 a3 a4 a5 k + _ ≤ _
    split <;> omega
theorem isOne2 {k : Nat} (hk : k < 7) : isOne k 2 = true ↔ k = 2 ∨ k = 6 := by
  have : k = 0 ∨ k = 1 ∨ k = 2 ∨ k = 3 ∨ k = 4 ∨ k = 5 ∨ k = 6 := by omega
  rcases this with rfl | rfl | rfl | rfl | rfl | rfl | rfl <;> decide
set_option maxHeartbeats 4000000 in
set_option maxRecDepth 100000 in
theorem m_first_n {T : xT} {n : Nat} {sh : Nat → Nat × Nat} {I : xI} {R : xR} {L : xL} {P : xPost} {M : Nat} (hM : xModel sh R M) (h : I M 11 = -1) (K : P (n, sh, 0, 0) I R L (some (.int 0))) : XM T zX10_first 0 [.ref M] n sh I R L P := by
  refine x_aload_n (pc := 0) dX10_first_0 rfl rfl ?_
  refine x_get (pc := 1) dX10_first_1 kf_RX10_44 hM.s rfl ?_
  rw [h]
  refine x_if_ge_f (pc := 4) (tgt := 11) dX10_first_4 (by decide) (by decide) ?_
  refine x_iconst (pc := 7) (v := 0) dX10_first_7 (by decide) ?_
  refine x_goto (pc := 8) (tgt := 18) dX10_first_8 (by decide) ?_
  refine x_ireturn (pc := 18) dX10_first_18 ⟨_, rfl, rfl⟩ ⟨Nat.le_refl _, Nat.le_refl _⟩ ?_
  exact K

set_option maxHeartbeats 4000000 in
set_option maxRecDepth 100000 in
theorem m_first_s {T : xT} {n : Nat} {sh : Nat → Nat × Nat} {I : xI} {R : xR} {L : xL} {P : xPost} {M : Nat} (hM : xModel sh R M) {t : Nat} (h : I M 11 = nI t) (ht : t < 6) (K : P (n, sh, 0, 0) I R L (some (.int (nI (8 * t))))) : XM T zX10_first 0 [.ref M] n sh I R L P := by
  refine x_aload_n (pc := 0) dX10_first_0 rfl rfl ?_
  refine x_get (pc := 1) dX10_first_1 kf_RX10_44 hM.s rfl ?_
  rw [h]
  refine x_ifn_ge (pc := 4) (tgt := 11) (a := t) dX10_first_4 (by decide) (by omega) ?_
  refine x_bipush (pc := 11) (v := 8) dX10_first_11 (by decide) ?_
  refine x_aload_n (pc := 13) dX10_first_13 rfl rfl ?_
  refine x_get (pc := 14) dX10_first_14 kf_RX10_44 hM.s rfl ?_
  rw [h]
  refine x_imuln (pc := 17) (a := 8) (b := t) dX10_first_17 ?_
  refine x_ireturn (pc := 18) dX10_first_18 ⟨_, rfl, rfl⟩ ⟨Nat.le_refl _, Nat.le_refl _⟩ ?_
  exact K

set_option maxHeartbeats 4000000 in
set_option maxRecDepth 100000 in
theorem m_behind_n {T : xT} {n : Nat} {sh : Nat → Nat × Nat} {I : xI} {R : xR} {L : xL} {P : xPost} {M : Nat} (hM : xModel sh R M) (h : I M 11 = -1) (K : P (n, sh, 0, 0) I R L (some (.int 0))) : XM T zX10_behind 0 [.ref M] n sh I R L P := by
  refine x_aload_n (pc := 0) dX10_behind_0 rfl rfl ?_
  refine x_get (pc := 1) dX10_behind_1 kf_RX10_44 hM.s rfl ?_
  rw [h]
  refine x_if_ge_f (pc := 4) (tgt := 11) dX10_behind_4 (by decide) (by decide) ?_
  refine x_iconst (pc := 7) (v := 0) dX10_behind_7 (by decide) ?_
  refine x_goto (pc := 8) (tgt := 28) dX10_behind_8 (by decide) ?_
  refine x_ireturn (pc := 28) dX10_behind_28 ⟨_, rfl, rfl⟩ ⟨Nat.le_refl _, Nat.le_refl _⟩ ?_
  exact K

set_option maxHeartbeats 4000000 in
set_option maxRecDepth 100000 in
theorem m_behind_s {T : xT} {n : Nat} {sh : Nat → Nat × Nat} {I : xI} {R : xR} {L : xL} {P : xPost} {M : Nat} (hM : xModel sh R M) {t ct : Nat} (h : I M 11 = nI t) (ht : t < 6) (hct : I (M + 8) t = nI ct) (K : P (n, sh, 0, 0) I R L (some (.int (nI (8 * t + ct))))) : XM T zX10_behind 0 [.ref M] n sh I R L P := by
  refine x_aload_n (pc := 0) dX10_behind_0 rfl rfl ?_
  refine x_get (pc := 1) dX10_behind_1 kf_RX10_44 hM.s rfl ?_
  rw [h]
  refine x_ifn_ge (pc := 4) (tgt := 11) (a := t) dX10_behind_4 (by decide) (by omega) ?_
  refine x_bipush (pc := 11) (v := 8) dX10_behind_11 (by decide) ?_
  refine x_aload_n (pc := 13) dX10_behind_13 rfl rfl ?_
  refine x_get (pc := 14) dX10_behind_14 kf_RX10_44 hM.s rfl ?_
  rw [h]
  refine x_imuln (pc := 17) (a := 8) (b := t) dX10_behind_17 ?_
  refine x_aload_n (pc := 18) dX10_behind_18 rfl rfl ?_
  refine x_getr (pc := 19) dX10_behind_19 kf_RX10_59 hM.s rfl hM.f7 ?_
  refine x_aload_n (pc := 22) dX10_behind_22 rfl rfl ?_
  refine x_get (pc := 23) dX10_behind_23 kf_RX10_44 hM.s rfl ?_
  rw [h]
  refine x_ialdn (pc := 26) (a := t) dX10_behind_26 hM.s7 (by omega) (by omega) ?_
  rw [hct]
  refine x_iaddn (pc := 27) (a := (8 * t)) (b := ct) dX10_behind_27 ?_
  refine x_ireturn (pc := 28) dX10_behind_28 ⟨_, rfl, rfl⟩ ⟨Nat.le_refl _, Nat.le_refl _⟩ ?_
  exact K

set_option maxHeartbeats 4000000 in
set_option maxRecDepth 100000 in
theorem lm_sumOf {T : xT} {n : Nat} {sh : Nat → Nat × Nat} {I : xI} {R : xR} {L : xL} {P : xPost} {M bi a2 a3 a4 te t wq : Nat} {ar : xAR} (hM : xModel sh R M) (hb6 : bi < 6) (h2 : I (M + 5) bi = nI a2) (h3 : I M 33 = nI a3) (h4 : I M 34 = nI a4) (h5 : I M 28 = nI te) (hte : te < 1000000) (hab : a2 < 100 ∧ a3 < 100 ∧ a4 < 100) (hw1 : wq < 2) (ht : I M 11 = nI t) (hr : mdRing I M t ar) (K : ∀ I2 : xI, (∀ a, a ≠ M + 18 → I2 a = I a) → P (n, sh, 0, 0) I2 R L (some (.int (nI (sumA ar wq bi a2 a3 a4 (te % 60) ar.1))))) : ∀ (w i : Nat), i + w = ar.1 → ∀ (J : xI), (∀ a, a ≠ M + 18 → J a = I a) → X T zX10_sumOf 2 0 0 P 8 [(0, .ref M), (1, .int (nI wq)), (2, .int (nI bi)), (3, .int (nI (sumA ar wq bi a2 a3 a4 (te % 60) i))), (4, .int (nI (8 * t + i)))] [] (n, sh, 0, 0) (J) R L := by
  have ht6 := hr.1
  have hc8 := hr.2.1
  intro w
  induction w with
  | zero =>
    intro i hw J fj
    have hz : i = ar.1 := by omega
    have kj : ∀ a, a ≠ M + 18 → J a = I a := fj
    refine x_iload (pc := 8) dX10_sumOf_8 rfl ?_
    refine x_aload_n (pc := 10) dX10_sumOf_10 rfl rfl ?_
    refine x_callV (pc := 11) (As := []) dX10_sumOf_11 km_X10_behind kv_X10_behind kl_RX10_298 hM.s rfl rfl (by decide) ⟨Nat.le_refl _, Nat.le_refl _⟩ rfl (Nat.le_of_ble_eq_true rfl) (Nat.le_of_ble_eq_true rfl) (m_behind_s hM (by rw [kj _ (by omega)]; exact ht) hr.1 (by rw [kj _ (by omega)]; exact hr.2.2.1) (⟨rfl, rfl, ?_⟩))
    refine x_icmpn_ge_t (pc := 14) (tgt := 58) (a := (8 * t + i)) (b := (8 * t + ar.1)) dX10_sumOf_14 (by decide) (by omega) (by omega) (by omega) ?_
    refine x_iload_n (pc := 58) dX10_sumOf_58 rfl rfl ?_
    refine x_ireturn (pc := 59) dX10_sumOf_59 ⟨_, rfl, rfl⟩ ⟨Nat.le_refl _, Nat.le_refl _⟩ ?_
    rw [hz]
    exact K _ fj
  | succ w ih =>
    intro i hw J fj
    have hi : i < ar.1 := by omega
    have kj : ∀ a, a ≠ M + 18 → J a = I a := fj
    obtain ⟨r1, r2, r3, r4, r5⟩ := hr.2.2.2 i hi
    have hsl := sumA_le (ar := ar) (w := wq) (a1 := bi) (a2 := a2) (a3 := a3) (a4 := a4) (a5 := te % 60) (fun c hc => (hr.2.2.2 c hc).2.1) i (by omega)
    refine x_iload (pc := 8) dX10_sumOf_8 rfl ?_
    refine x_aload_n (pc := 10) dX10_sumOf_10 rfl rfl ?_
    refine x_callV (pc := 11) (As := []) dX10_sumOf_11 km_X10_behind kv_X10_behind kl_RX10_298 hM.s rfl rfl (by decide) ⟨Nat.le_refl _, Nat.le_refl _⟩ rfl (Nat.le_of_ble_eq_true rfl) (Nat.le_of_ble_eq_true rfl) (m_behind_s hM (by rw [kj _ (by omega)]; exact ht) hr.1 (by rw [kj _ (by omega)]; exact hr.2.2.1) (⟨rfl, rfl, ?_⟩))
    refine x_icmpn_ge_f (pc := 14) (tgt := 58) (a := (8 * t + i)) (b := (8 * t + ar.1)) dX10_sumOf_14 (by decide) (by omega) (by omega) (by omega) ?_
    refine x_iload_n (pc := 17) dX10_sumOf_17 rfl rfl ?_
    refine x_aload_n (pc := 18) dX10_sumOf_18 rfl rfl ?_
    refine x_getr (pc := 19) dX10_sumOf_19 kf_RX10_62 hM.s rfl hM.f8 ?_
    refine x_iload (pc := 22) dX10_sumOf_22 rfl ?_
    refine x_ialdn (pc := 24) (a := (8 * t + i)) dX10_sumOf_24 hM.s8 (by omega) (by omega) ?_
    rw [kj _ (by omega), r3]
    refine x_iload_n (pc := 25) dX10_sumOf_25 rfl rfl ?_
    refine x_icmpn_ne (pc := 26) (tgt := 49) (a := (ar.2.1 i)) (b := wq) dX10_sumOf_26 (by decide) (by omega) (by omega) (fun c26 => ?_) (fun c26 => ?_)
    · skip
      refine x_iconst (pc := 49) (v := 0) dX10_sumOf_49 (by decide) ?_
      refine x_iaddn (pc := 50) (a := (sumA ar wq bi a2 a3 a4 (te % 60) i)) (b := 0) dX10_sumOf_50 ?_
      rw [Nat.add_zero]
      refine x_istore_n (pc := 51) (lv' := [(0, .ref M), (1, .int (nI wq)), (2, .int (nI bi)), (3, .int (nI (sumA ar wq bi a2 a3 a4 (te % 60) i))), (4, .int (nI (8 * t + i)))]) dX10_sumOf_51 rfl (by decide) rfl ?_
      refine x_iinc (pc := 52) (v := nI (8 * t + i + 1)) (lv' := [(0, .ref M), (1, .int (nI wq)), (2, .int (nI bi)), (3, .int (nI (sumA ar wq bi a2 a3 a4 (te % 60) i))), (4, .int (nI (8 * t + i + 1)))]) dX10_sumOf_52 rfl (nI_1 _) (by decide) rfl ?_
      refine x_goto (pc := 55) (tgt := 8) dX10_sumOf_55 (by decide) ?_
      have h := ih (i + 1) (by omega) _ fj
      rw [show sumA ar wq bi a2 a3 a4 (te % 60) (i + 1) = sumA ar wq bi a2 a3 a4 (te % 60) i from by show _ + _ = _; rw [if_neg (fun q => c26 q.1)]; rfl] at h
      exact h
    · skip
      rw [c26] at r5
      obtain ⟨fr, kk, q1, q2, q3, q4⟩ := r5 (by omega)
      refine x_aload_n (pc := 29) dX10_sumOf_29 rfl rfl ?_
      refine x_iload (pc := 30) dX10_sumOf_30 rfl ?_
      refine x_iload_n (pc := 32) dX10_sumOf_32 rfl rfl ?_
      refine x_callV (pc := 33) (As := [.int _, .int _]) dX10_sumOf_33 km_X10_holds kv_X10_holds kl_RX10_313 hM.s rfl rfl (by decide) ⟨Nat.le_refl _, Nat.le_refl _⟩ rfl (Nat.le_of_ble_eq_true rfl) (Nat.le_of_ble_eq_true rfl) (m_holds (kk := kk) (v := ar.2.2.2 i bi a2 a3 a4 (te % 60)) hM hb6 (by rw [kj _ (by omega)]; exact h2) (by rw [kj _ (by omega)]; exact h3) (by rw [kj _ (by omega)]; exact h4) (by rw [kj _ (by omega)]; exact h5) hte (by omega) (by rw [kj _ (by omega)]; exact q1) (by rw [kj _ (by omega)]; exact q2) q3 (by rw [kj _ (by omega)]; exact q4 _ _ _ _ _) hab (fun J2 f2 => ⟨rfl, rfl, ?_⟩))
      cases hv : ar.2.2.2 i bi a2 a3 a4 (te % 60)
      · skip
        rw [if_neg (by decide)]
        refine x_if_eq_t (pc := 36) (tgt := 49) dX10_sumOf_36 (by decide) (by decide) ?_
        refine x_iconst (pc := 49) (v := 0) dX10_sumOf_49 (by decide) ?_
        refine x_iaddn (pc := 50) (a := (sumA ar wq bi a2 a3 a4 (te % 60) i)) (b := 0) dX10_sumOf_50 ?_
        rw [Nat.add_zero]
        refine x_istore_n (pc := 51) (lv' := [(0, .ref M), (1, .int (nI wq)), (2, .int (nI bi)), (3, .int (nI (sumA ar wq bi a2 a3 a4 (te % 60) i))), (4, .int (nI (8 * t + i)))]) dX10_sumOf_51 rfl (by decide) rfl ?_
        refine x_iinc (pc := 52) (v := nI (8 * t + i + 1)) (lv' := [(0, .ref M), (1, .int (nI wq)), (2, .int (nI bi)), (3, .int (nI (sumA ar wq bi a2 a3 a4 (te % 60) i))), (4, .int (nI (8 * t + i + 1)))]) dX10_sumOf_52 rfl (nI_1 _) (by decide) rfl ?_
        refine x_goto (pc := 55) (tgt := 8) dX10_sumOf_55 (by decide) ?_
        have h := ih (i + 1) (by omega) _ (fun a ha => (f2 a ha).trans (fj a ha))
        rw [show sumA ar wq bi a2 a3 a4 (te % 60) (i + 1) = sumA ar wq bi a2 a3 a4 (te % 60) i from by show _ + _ = _; rw [if_neg (fun q => by have := q.2; rw [hv] at this; cases this)]; rfl] at h
        exact h
      · skip
        rw [if_pos rfl]
        refine x_if_eq_f (pc := 36) (tgt := 49) dX10_sumOf_36 (by decide) (by decide) ?_
        refine x_aload_n (pc := 39) dX10_sumOf_39 rfl rfl ?_
        refine x_getr (pc := 40) dX10_sumOf_40 kf_RX10_65 hM.s rfl hM.f9 ?_
        refine x_iload (pc := 43) dX10_sumOf_43 rfl ?_
        refine x_ialdn (pc := 45) (a := (8 * t + i)) dX10_sumOf_45 hM.s9 (by omega) (by omega) ?_
        rw [f2 _ (by omega), kj _ (by omega), r4]
        refine x_goto (pc := 46) (tgt := 50) dX10_sumOf_46 (by decide) ?_
        refine x_iaddn (pc := 50) (a := (sumA ar wq bi a2 a3 a4 (te % 60) i)) (b := (ar.2.2.1 i)) dX10_sumOf_50 ?_
        refine x_istore_n (pc := 51) (lv' := [(0, .ref M), (1, .int (nI wq)), (2, .int (nI bi)), (3, .int (nI ((sumA ar wq bi a2 a3 a4 (te % 60) i) + (ar.2.2.1 i)))), (4, .int (nI (8 * t + i)))]) dX10_sumOf_51 rfl (by decide) rfl ?_
        refine x_iinc (pc := 52) (v := nI (8 * t + i + 1)) (lv' := [(0, .ref M), (1, .int (nI wq)), (2, .int (nI bi)), (3, .int (nI ((sumA ar wq bi a2 a3 a4 (te % 60) i) + (ar.2.2.1 i)))), (4, .int (nI (8 * t + i + 1)))]) dX10_sumOf_52 rfl (nI_1 _) (by decide) rfl ?_
        refine x_goto (pc := 55) (tgt := 8) dX10_sumOf_55 (by decide) ?_
        have h := ih (i + 1) (by omega) _ (fun a ha => (f2 a ha).trans (fj a ha))
        rw [show sumA ar wq bi a2 a3 a4 (te % 60) (i + 1) = sumA ar wq bi a2 a3 a4 (te % 60) i + ar.2.2.1 i from by show _ + _ = _; rw [if_pos ⟨c26, hv⟩]] at h
        exact h

set_option maxHeartbeats 4000000 in
set_option maxRecDepth 100000 in
theorem m_sumOf_s {T : xT} {n : Nat} {sh : Nat → Nat × Nat} {I : xI} {R : xR} {L : xL} {P : xPost} {M bi a2 a3 a4 te t wq : Nat} {ar : xAR} (hM : xModel sh R M) (hb6 : bi < 6) (h2 : I (M + 5) bi = nI a2) (h3 : I M 33 = nI a3) (h4 : I M 34 = nI a4) (h5 : I M 28 = nI te) (hte : te < 1000000) (hab : a2 < 100 ∧ a3 < 100 ∧ a4 < 100) (hw1 : wq < 2) (ht : I M 11 = nI t) (hr : mdRing I M t ar) (K : ∀ I2 : xI, (∀ a, a ≠ M + 18 → I2 a = I a) → P (n, sh, 0, 0) I2 R L (some (.int (nI (sumA ar wq bi a2 a3 a4 (te % 60) ar.1))))) : XM T zX10_sumOf 2 [.ref M, .int (nI wq), .int (nI bi)] n sh I R L P := by
  have ht6 := hr.1
  refine x_iconst (pc := 0) (v := 0) dX10_sumOf_0 (by decide) ?_
  refine x_istore_n (pc := 1) (lv' := [(0, .ref M), (1, .int (nI wq)), (2, .int (nI bi)), (3, .int 0)]) dX10_sumOf_1 rfl (by decide) rfl ?_
  refine x_aload_n (pc := 2) dX10_sumOf_2 rfl rfl ?_
  refine x_callV (pc := 3) (As := []) dX10_sumOf_3 km_X10_first kv_X10_first kl_RX10_295 hM.s rfl rfl (by decide) ⟨Nat.le_refl _, Nat.le_refl _⟩ rfl (Nat.le_of_ble_eq_true rfl) (Nat.le_of_ble_eq_true rfl) (m_first_s hM ht hr.1 (⟨rfl, rfl, ?_⟩))
  refine x_istore (pc := 6) (lv' := [(0, .ref M), (1, .int (nI wq)), (2, .int (nI bi)), (3, .int 0), (4, .int (nI (8 * t)))]) dX10_sumOf_6 (by decide) rfl ?_
  exact lm_sumOf hM hb6 h2 h3 h4 h5 hte hab hw1 ht hr K ar.1 0 (by omega) I (fun _ _ => rfl)

set_option maxHeartbeats 4000000 in
set_option maxRecDepth 100000 in
theorem m_sumOf_n {T : xT} {n : Nat} {sh : Nat → Nat × Nat} {I : xI} {R : xR} {L : xL} {P : xPost} {M bi wq : Nat} (hM : xModel sh R M) (ht : I M 11 = -1) (K : P (n, sh, 0, 0) I R L (some (.int 0))) : XM T zX10_sumOf 2 [.ref M, .int (nI wq), .int (nI bi)] n sh I R L P := by
  refine x_iconst (pc := 0) (v := 0) dX10_sumOf_0 (by decide) ?_
  refine x_istore_n (pc := 1) (lv' := [(0, .ref M), (1, .int (nI wq)), (2, .int (nI bi)), (3, .int 0)]) dX10_sumOf_1 rfl (by decide) rfl ?_
  refine x_aload_n (pc := 2) dX10_sumOf_2 rfl rfl ?_
  refine x_callV (pc := 3) (As := []) dX10_sumOf_3 km_X10_first kv_X10_first kl_RX10_295 hM.s rfl rfl (by decide) ⟨Nat.le_refl _, Nat.le_refl _⟩ rfl (Nat.le_of_ble_eq_true rfl) (Nat.le_of_ble_eq_true rfl) (m_first_n hM ht (⟨rfl, rfl, ?_⟩))
  refine x_istore (pc := 6) (lv' := [(0, .ref M), (1, .int (nI wq)), (2, .int (nI bi)), (3, .int 0), (4, .int 0)]) dX10_sumOf_6 (by decide) rfl ?_
  refine x_iload (pc := 8) dX10_sumOf_8 rfl ?_
  refine x_aload_n (pc := 10) dX10_sumOf_10 rfl rfl ?_
  refine x_callV (pc := 11) (As := []) dX10_sumOf_11 km_X10_behind kv_X10_behind kl_RX10_298 hM.s rfl rfl (by decide) ⟨Nat.le_refl _, Nat.le_refl _⟩ rfl (Nat.le_of_ble_eq_true rfl) (Nat.le_of_ble_eq_true rfl) (m_behind_n hM ht (⟨rfl, rfl, ?_⟩))
  refine x_icmp_ge_t (pc := 14) (tgt := 58) dX10_sumOf_14 (by decide) (by decide) ?_
  refine x_iload_n (pc := 58) dX10_sumOf_58 rfl rfl ?_
  refine x_ireturn (pc := 59) dX10_sumOf_59 ⟨_, rfl, rfl⟩ ⟨Nat.le_refl _, Nat.le_refl _⟩ ?_
  exact K

def sumO (o : Option xAR) (w a1 a2 a3 a4 a5 : Nat) : Nat := match o with
  | none => 0
  | some ar => sumA ar w a1 a2 a3 a4 a5 ar.1
theorem lnO_eq {o : Option xAR} {a1 a2 a3 a4 a5 : Nat} : lnO o a1 a2 a3 a4 a5 = (sumO o 0 a1 a2 a3 a4 a5, sumO o 1 a1 a2 a3 a4 a5) := by cases o <;> rfl
theorem sumO_lt {I : xI} {M : Nat} {o : Option xAR} {w a1 a2 a3 a4 a5 : Nat} (h : mdLines I M o) : sumO o w a1 a2 a3 a4 a5 ≤ 800 := by
  cases o with
  | none => exact Nat.zero_le _
  | some ar =>
    obtain ⟨t, -, -, h8, -, h2⟩ := h
    have := sumA_le (ar := ar) (w := w) (a1 := a1) (a2 := a2) (a3 := a3) (a4 := a4) (a5 := a5) (fun c hc => (h2 c hc).2.1) ar.1 (Nat.le_refl _)
    show sumA ar w a1 a2 a3 a4 a5 ar.1 ≤ 800
    omega
theorem m_sumOf {T : xT} {n : Nat} {sh : Nat → Nat × Nat} {I : xI} {R : xR} {L : xL} {P : xPost} {M bi a2 a3 a4 te w : Nat} {o : Option xAR} (hM : xModel sh R M) (hb6 : bi < 6) (h2 : I (M + 5) bi = nI a2) (h3 : I M 33 = nI a3) (h4 : I M 34 = nI a4) (h5 : I M 28 = nI te) (hte : te < 1000000) (hab : a2 < 100 ∧ a3 < 100 ∧ a4 < 100) (hw1 : w < 2) (hr : mdLines I M o) (K : ∀ I2 : xI, (∀ a, a ≠ M + 18 → I2 a = I a) → P (n, sh, 0, 0) I2 R L (some (.int (nI (sumO o w bi a2 a3 a4 (te % 60)))))) : XM T zX10_sumOf 2 [.ref M, .int (nI w), .int (nI bi)] n sh I R L P := by
  cases o with
  | none => exact m_sumOf_n hM hr (K I (fun _ _ => rfl))
  | some ar =>
    obtain ⟨t, h6, h7⟩ := hr
    exact m_sumOf_s hM hb6 h2 h3 h4 h5 hte hab hw1 h6 h7 K
