/-! ===== tapes, judge: the reference ===== -/
theorem six_k {x : Int32} (h1 : ¬ x < 0) (h2 : ¬ 5 < x) : ∃ k : Nat, k < 6 ∧ x = nI k := by
  obtain ⟨j, hj, rfl⟩ := nI_of h1
  refine ⟨j, ?_, rfl⟩
  rcases Nat.lt_or_ge j 6 with h | h
  · exact h
  · exact absurd ((nI_ltI (a := 5) (by decide) hj).mpr (by omega)) h2
theorem six_o {x : Int32} (h : x < 0 ∨ (5 : Int32) < x) : x < 0 ∨ nI 6 ≤ x := h.imp id (fun h => le_of_lt1 (n := 5) (by decide) h)
theorem tok_neg {z : Int32 × Nat × (Nat → Int64)} (h : TOK1 z) : z.1 < 0 ↔ z.1 = -1 := by
  rcases h.2 with q | ⟨k, hk, q⟩
  · exact ⟨fun _ => q.1, fun _ => by rw [q.1]; decide⟩
  · exact ⟨fun p => absurd p (by rw [q]; exact nI_pos (by omega)), fun p => absurd p (by rw [q]; exact nI_nem (by omega))⟩
theorem tok_pos {z : Int32 × Nat × (Nat → Int64)} (h : TOK1 z) : z.1 ≤ 0 ↔ (z.1 = -1 ∨ z.1 = 0) := by
  rcases h.2 with q | ⟨k, hk, q⟩
  · exact ⟨fun _ => Or.inl q.1, fun _ => by rw [q.1]; decide⟩
  · refine ⟨fun p => Or.inr ?_, fun p => p.elim (fun p => absurd p (by rw [q]; exact nI_nem (by omega))) (fun p => by rw [p]; decide)⟩
    rw [q] at p ⊢
    have := (nI_leI (b := 0) (by omega) (by decide)).mp p
    have e : k = 0 := by omega
    rw [e]
    rfl
/-- what the tapes' methods of the reference alter -/
def tpI (M : Nat) (I I' : xI) : Prop := ∀ a, a ≠ M + 36 → a ≠ M + 37 → I' a = I a
def tpL (M : Nat) (L L' : xL) : Prop := ∀ a, a ≠ M + 38 → a ≠ M + 39 → L' a = L a

set_option maxHeartbeats 4000000 in
set_option maxRecDepth 100000 in
theorem m_isTape {T : xT} {n : Nat} {sh : Nat → Nat × Nat} {I : xI} {R : xR} {L : xL} {P : xPost} {M : Nat} (hM : xModel sh R M) {x : Int32} (K1 : ∀ k, k < 6 → x = nI k → P (n, sh, 0, 0) I R L (some (.int 1))) (K2 : (x < 0 ∨ nI 6 ≤ x) → P (n, sh, 0, 0) I R L (some (.int 0)))  : XM T zX10_isTape 1 [.ref M, .int x] n sh I R L P := by
  refine x_aload_n (pc := 0) dX10_isTape_0 rfl rfl ?_
  refine x_iload_n (pc := 1) dX10_isTape_1 rfl rfl ?_
  refine x_iconst (pc := 2) (v := 0) dX10_isTape_2 (by decide) ?_
  refine x_iconst (pc := 3) (v := 5) dX10_isTape_3 (by decide) ?_
  refine x_callV (pc := 4) (As := [.int _, .int _, .int _]) dX10_isTape_4 km_X10_in kv_X10_in kl_RX10_231 hM.s rfl rfl (by decide) ⟨Nat.le_refl _, Nat.le_refl _⟩ rfl (Nat.le_of_ble_eq_true rfl) (Nat.le_of_ble_eq_true rfl) (m_in hM.s (fun p1 p2 => ⟨rfl, rfl, ?_⟩) (fun g1 => ⟨rfl, rfl, ?_⟩))
  · skip
    refine x_ireturn (pc := 7) dX10_isTape_7 ⟨_, rfl, by decide⟩ ⟨Nat.le_refl _, Nat.le_refl _⟩ ?_
    obtain ⟨k, hk, ek⟩ := six_k p1 p2
    exact K1 k hk ek
  · skip
    refine x_ireturn (pc := 7) dX10_isTape_7 ⟨_, rfl, by decide⟩ ⟨Nat.le_refl _, Nat.le_refl _⟩ ?_
    exact K2 (six_o g1)

set_option maxHeartbeats 4000000 in
set_option maxRecDepth 100000 in
theorem lm_tape {T : xT} {n : Nat} {sh : Nat → Nat × Nat} {I : xI} {R : xR} {L : xL} {P : xPost} {M t : Nat} {s y : Int32} (hM : xModel sh R M) (ht : t < 6) (K : ∀ L2 : xL, (∀ i, i < 60 → L2 (M + 38) (60 * t + i) = 0) → (∀ j, (j < 60 * t ∨ 60 * t + 60 ≤ j) → L2 (M + 38) j = L (M + 38) j) → (∀ a, a ≠ M + 38 → L2 a = L a) → P (n, sh, 0, 0) I R L2 (some (.int 1)))  : ∀ (w i : Nat), i + w = 60 → ∀ (Q : xL), (∀ j, j < i → Q (M + 38) (60 * t + j) = 0) → (∀ j, (j < 60 * t ∨ 60 * t + 60 ≤ j) → Q (M + 38) j = L (M + 38) j) → (∀ a, a ≠ M + 38 → Q a = L a) → X T zX10_tape 2 0 0 P 69 [(0, .ref M), (1, .int (nI t)), (2, .int s), (3, .int y), (4, .int (nI i))] [] (n, sh, 0, 0) (I) R Q := by
  intro w
  induction w with
  | zero =>
    intro i hw Q q1 q2 q3
    have hz : i = 60 := by omega
    refine x_iload (pc := 69) dX10_tape_69 rfl ?_
    refine x_bipush (pc := 71) (v := 60) dX10_tape_71 (by decide) ?_
    refine x_icmpn_ge_t (pc := 73) (tgt := 95) (a := i) (b := 60) dX10_tape_73 (by decide) (by omega) (by decide) (by omega) ?_
    refine x_iconst (pc := 95) (v := 1) dX10_tape_95 (by decide) ?_
    refine x_ireturn (pc := 96) dX10_tape_96 ⟨_, rfl, rfl⟩ ⟨Nat.le_refl _, Nat.le_refl _⟩ ?_
    exact K Q (fun j hj => q1 j (by omega)) q2 q3
  | succ w ih =>
    intro i hw Q q1 q2 q3
    have hi : i < 60 := by omega
    refine x_iload (pc := 69) dX10_tape_69 rfl ?_
    refine x_bipush (pc := 71) (v := 60) dX10_tape_71 (by decide) ?_
    refine x_icmpn_ge_f (pc := 73) (tgt := 95) (a := i) (b := 60) dX10_tape_73 (by decide) (by omega) (by decide) (by omega) ?_
    refine x_aload_n (pc := 76) dX10_tape_76 rfl rfl ?_
    refine x_getr (pc := 77) dX10_tape_77 kf_RX10_217 hM.s rfl hM.f37 ?_
    refine x_bipush (pc := 80) (v := 60) dX10_tape_80 (by decide) ?_
    refine x_iload_n (pc := 82) dX10_tape_82 rfl rfl ?_
    refine x_imuln (pc := 83) (a := 60) (b := t) dX10_tape_83 ?_
    refine x_iload (pc := 84) dX10_tape_84 rfl ?_
    refine x_iaddn (pc := 86) (a := (60 * t)) (b := i) dX10_tape_86 ?_
    refine x_lconst (pc := 87) (v := 0) dX10_tape_87 (by decide) ?_
    refine x_lastn (pc := 88) (a := ((60 * t) + i)) dX10_tape_88 hM.s37 (by omega) (by omega) ?_
    refine x_iinc (pc := 89) (v := nI (i + 1)) (lv' := [(0, .ref M), (1, .int (nI t)), (2, .int s), (3, .int y), (4, .int (nI (i + 1)))]) dX10_tape_89 rfl (nI_1 _) (by decide) rfl ?_
    refine x_goto (pc := 92) (tgt := 69) dX10_tape_92 (by decide) ?_
    refine ih (i + 1) (by omega) _ (fun j hj => ?_) (fun j hj => ?_) (fun a p => (up2_row p).trans (q3 a p))
    · rcases Nat.lt_succ_iff_lt_or_eq.mp hj with e | e
      · rw [up2_k (by omega)]
        exact q1 j e
      · rw [e, up2_s]
    · rw [up2_k (by omega)]
      exact q2 j hj

set_option maxHeartbeats 4000000 in
set_option maxRecDepth 100000 in
theorem lm_tape_e {T : xT} {n : Nat} {sh : Nat → Nat × Nat} {I : xI} {R : xR} {L : xL} {P : xPost} {M : Nat} (hM : xModel sh R M) {W : xW} (hw : TPM I L M W) (ho : TOK W) {t : Nat} {y : Int32} (ht : t < 6) (K : ∀ (I2 : xI) (L2 : xL), TPM I2 L2 M (spTape W (nI t) (-1) y).2 → tpI M I I2 → tpL M L L2 → P (n, sh, 0, 0) I2 R L2 (some (.int (spTape W (nI t) (-1) y).1)))  :  X T zX10_tape 2 0 0 P 20 [(0, .ref M), (1, .int (nI t)), (2, .int (-1)), (3, .int y)] [] (n, sh, 0, 0) (I) R L := by
  refine x_iload_n (pc := 20) dX10_tape_20 rfl rfl ?_
  refine x_if_lt_t (pc := 21) (tgt := 33) dX10_tape_21 (by decide) (by decide) ?_
  refine x_iload_n (pc := 33) dX10_tape_33 rfl rfl ?_
  refine x_if_lt_t (pc := 34) (tgt := 44) dX10_tape_34 (by decide) (by decide) ?_
  refine x_aload_n (pc := 44) dX10_tape_44 rfl rfl ?_
  refine x_getr (pc := 45) dX10_tape_45 kf_RX10_211 hM.s rfl hM.f35 ?_
  refine x_iload_n (pc := 48) dX10_tape_48 rfl rfl ?_
  refine x_iload_n (pc := 49) dX10_tape_49 rfl rfl ?_
  refine x_iastn (pc := 50) (a := t) dX10_tape_50 hM.s35 (by omega) (by omega) ?_
  refine x_aload_n (pc := 51) dX10_tape_51 rfl rfl ?_
  refine x_getr (pc := 52) dX10_tape_52 kf_RX10_214 hM.s rfl hM.f36 ?_
  refine x_iload_n (pc := 55) dX10_tape_55 rfl rfl ?_
  refine x_iload_n (pc := 56) dX10_tape_56 rfl rfl ?_
  refine x_if_ge_f (pc := 57) (tgt := 64) dX10_tape_57 (by decide) (by decide) ?_
  refine x_iconst (pc := 60) (v := 0) dX10_tape_60 (by decide) ?_
  refine x_goto (pc := 61) (tgt := 65) dX10_tape_61 (by decide) ?_
  refine x_iastn (pc := 65) (a := t) dX10_tape_65 hM.s36 (by omega) (by omega) ?_
  refine x_iconst (pc := 66) (v := 0) dX10_tape_66 (by decide) ?_
  refine x_istore (pc := 67) (lv' := [(0, .ref M), (1, .int (nI t)), (2, .int (-1)), (3, .int y), (4, .int 0)]) dX10_tape_67 (by decide) rfl ?_
  refine lm_tape hM ht (fun L2 q1 q2 q3 => ?_) 60 0 (by omega) L (fun j hj => absurd hj (by omega)) (fun _ _ => rfl) (fun _ _ => rfl)
  have e9 : spTape W (nI t) (-1) y = (1, setT W t (-1, 0, fun _ => 0)) := spTape_e ht
  have h9 := K _ L2 (by rw [e9]; exact hw.set ho ht (fun u p => ⟨(congrFun (up2_row (by omega)) u).trans (up2_k p), (up2_k p).trans (congrFun (up2_row (by omega)) u)⟩) q2 ((congrFun (up2_row (by omega)) t).trans up2_s) up2_s (fun i hi => q1 i (by have hi : i < 0 := hi; omega))) (fun a p1 p2 => (up2_row p2).trans (up2_row p1)) (fun a p1 _ => q3 a p1)
  rw [e9] at h9
  exact h9

set_option maxHeartbeats 4000000 in
set_option maxRecDepth 100000 in
theorem lm_tape_k {T : xT} {n : Nat} {sh : Nat → Nat × Nat} {I : xI} {R : xR} {L : xL} {P : xPost} {M : Nat} (hM : xModel sh R M) {W : xW} (hw : TPM I L M W) (ho : TOK W) {t k : Nat} {y : Int32} (ht : t < 6) (hk : k < 5) (K : ∀ (I2 : xI) (L2 : xL), TPM I2 L2 M (spTape W (nI t) (nI k) y).2 → tpI M I I2 → tpL M L L2 → P (n, sh, 0, 0) I2 R L2 (some (.int (spTape W (nI t) (nI k) y).1)))  :  X T zX10_tape 2 0 0 P 20 [(0, .ref M), (1, .int (nI t)), (2, .int (nI k)), (3, .int y)] [] (n, sh, 0, 0) (I) R L := by
  refine x_iload_n (pc := 20) dX10_tape_20 rfl rfl ?_
  refine x_ifn_lt (pc := 21) (a := k) dX10_tape_21 ⟨33, by decide⟩ (by omega) ?_
  refine x_iload_n (pc := 24) dX10_tape_24 rfl rfl ?_
  refine x_bipush (pc := 25) (v := 60) dX10_tape_25 (by decide) ?_
  refine x_icmp_le (pc := 27) (tgt := 33) dX10_tape_27 (by decide) (fun c27 => ?_) (fun c27 => ?_)
  · skip
    refine x_iload_n (pc := 33) dX10_tape_33 rfl rfl ?_
    refine x_ifn_lt (pc := 34) (a := k) dX10_tape_34 ⟨44, by decide⟩ (by omega) ?_
    refine x_iload_n (pc := 37) dX10_tape_37 rfl rfl ?_
    refine x_if_ge (pc := 38) (tgt := 44) dX10_tape_38 (by decide) (fun c38 => ?_) (fun c38 => ?_)
    · skip
      obtain ⟨m, hm, em⟩ := nI_of (fun q : y < 0 => absurd (Int32.le_iff_toInt_le.mp c38) (by have := Int32.lt_iff_toInt_lt.mp q; omega))
      subst em
      have m60 : m ≤ 60 := Nat.le_of_not_lt (fun q => absurd c27 (fun z => absurd ((nI_leI (b := 60) hm (by decide)).mp z) (by omega)))
      refine x_aload_n (pc := 44) dX10_tape_44 rfl rfl ?_
      refine x_getr (pc := 45) dX10_tape_45 kf_RX10_211 hM.s rfl hM.f35 ?_
      refine x_iload_n (pc := 48) dX10_tape_48 rfl rfl ?_
      refine x_iload_n (pc := 49) dX10_tape_49 rfl rfl ?_
      refine x_iastn (pc := 50) (a := t) dX10_tape_50 hM.s35 (by omega) (by omega) ?_
      refine x_aload_n (pc := 51) dX10_tape_51 rfl rfl ?_
      refine x_getr (pc := 52) dX10_tape_52 kf_RX10_214 hM.s rfl hM.f36 ?_
      refine x_iload_n (pc := 55) dX10_tape_55 rfl rfl ?_
      refine x_iload_n (pc := 56) dX10_tape_56 rfl rfl ?_
      refine x_ifn_ge (pc := 57) (tgt := 64) (a := k) dX10_tape_57 (by decide) (by omega) ?_
      refine x_iload_n (pc := 64) dX10_tape_64 rfl rfl ?_
      refine x_iastn (pc := 65) (a := t) dX10_tape_65 hM.s36 (by omega) (by omega) ?_
      refine x_iconst (pc := 66) (v := 0) dX10_tape_66 (by decide) ?_
      refine x_istore (pc := 67) (lv' := [(0, .ref M), (1, .int (nI t)), (2, .int (nI k)), (3, .int (nI m)), (4, .int 0)]) dX10_tape_67 (by decide) rfl ?_
      refine lm_tape hM ht (fun L2 q1 q2 q3 => ?_) 60 0 (by omega) L (fun j hj => absurd hj (by omega)) (fun _ _ => rfl) (fun _ _ => rfl)
      have e9 : spTape W (nI t) (nI k) (nI m) = (1, setT W t (nI k, m, fun _ => 0)) := (spTape_k ht hk).trans ((if_neg (fun q => absurd ((nI_ltI (a := 60) (by decide) hm).mp q) (by omega))).trans ((if_neg (nI_pos hm)).trans (by rw [nI_clamp hm])))
      have h9 := K _ L2 (by rw [e9]; exact hw.set ho ht (fun u p => ⟨(congrFun (up2_row (by omega)) u).trans (up2_k p), (up2_k p).trans (congrFun (up2_row (by omega)) u)⟩) q2 ((congrFun (up2_row (by omega)) t).trans up2_s) up2_s (fun i hi => q1 i (by have hi : i < m := hi; omega))) (fun a p1 p2 => (up2_row p2).trans (up2_row p1)) (fun a p1 _ => q3 a p1)
      rw [e9] at h9
      exact h9
    · skip
      refine x_bipush (pc := 41) (v := -14) dX10_tape_41 (by decide) ?_
      refine x_ireturn (pc := 43) dX10_tape_43 ⟨_, rfl, rfl⟩ ⟨Nat.le_refl _, Nat.le_refl _⟩ ?_
      have e9 : spTape W (nI t) (nI k) y = (-14, W) := (spTape_k ht hk).trans ((if_neg (i32_nlt c27)).trans (if_pos (i32_lt c38)))
      have h9 := K I L (by rw [e9]; exact hw) (fun _ _ _ => rfl) (fun _ _ _ => rfl)
      rw [e9] at h9
      exact h9
  · skip
    refine x_bipush (pc := 30) (v := -2) dX10_tape_30 (by decide) ?_
    refine x_ireturn (pc := 32) dX10_tape_32 ⟨_, rfl, rfl⟩ ⟨Nat.le_refl _, Nat.le_refl _⟩ ?_
    have e9 : spTape W (nI t) (nI k) y = (-2, W) := (spTape_k ht hk).trans (if_pos (i32_lt c27))
    have h9 := K I L (by rw [e9]; exact hw) (fun _ _ _ => rfl) (fun _ _ _ => rfl)
    rw [e9] at h9
    exact h9

set_option maxHeartbeats 4000000 in
set_option maxRecDepth 100000 in
theorem m_tapeIt {T : xT} {n : Nat} {sh : Nat → Nat × Nat} {I : xI} {R : xR} {L : xL} {P : xPost} {M : Nat} (hM : xModel sh R M) {W : xW} (hw : TPM I L M W) (ho : TOK W) {x s y : Int32} (K : ∀ (I2 : xI) (L2 : xL), TPM I2 L2 M (spTape W x s y).2 → tpI M I I2 → tpL M L L2 → P (n, sh, 0, 0) I2 R L2 (some (.int (spTape W x s y).1)))  : XM T zX10_tape 2 [.ref M, .int x, .int s, .int y] n sh I R L P := by
  refine x_aload_n (pc := 0) dX10_tape_0 rfl rfl ?_
  refine x_iload_n (pc := 1) dX10_tape_1 rfl rfl ?_
  refine x_callV (pc := 2) (As := [.int _]) dX10_tape_2 km_X10_isTape kv_X10_isTape kl_RX10_382 hM.s rfl rfl (by decide) ⟨Nat.le_refl _, Nat.le_refl _⟩ rfl (Nat.le_of_ble_eq_true rfl) (Nat.le_of_ble_eq_true rfl) (m_isTape hM (fun t ht et => ⟨rfl, rfl, ?_⟩) (fun h1 => ⟨rfl, rfl, ?_⟩))
  · skip
    subst et
    obtain ⟨wt1, wt2, wt3⟩ := hw t ht
    have kt := ho t ht
    have ot1 := kt.1
    refine x_if_ne_t (pc := 5) (tgt := 10) dX10_tape_5 (by decide) (by decide) ?_
    refine x_aload_n (pc := 10) dX10_tape_10 rfl rfl ?_
    refine x_iload_n (pc := 11) dX10_tape_11 rfl rfl ?_
    refine x_iconst (pc := 12) (v := -1) dX10_tape_12 (by decide) ?_
    refine x_iconst (pc := 13) (v := 4) dX10_tape_13 (by decide) ?_
    refine x_callV (pc := 14) (As := [.int _, .int _, .int _]) dX10_tape_14 km_X10_in kv_X10_in kl_RX10_231 hM.s rfl rfl (by decide) ⟨Nat.le_refl _, Nat.le_refl _⟩ rfl (Nat.le_of_ble_eq_true rfl) (Nat.le_of_ble_eq_true rfl) (m_in hM.s (fun p1 p2 => ⟨rfl, rfl, ?_⟩) (fun g1 => ⟨rfl, rfl, ?_⟩))
    · skip
      refine x_if_eq_f (pc := 17) (tgt := 30) dX10_tape_17 (by decide) (by decide) ?_
      by_cases qs : s < 0
      · have es : s = -1 := Int32.toInt_inj.mp (by have a1 := Int32.lt_iff_toInt_lt.mp qs; have a2 := Int32.le_iff_toInt_le.mp (Int32.not_lt.mp p1); have e1 : (-1 : Int32).toInt = -1 := rfl; have e0 : (0 : Int32).toInt = 0 := rfl; omega)
        subst es
        exact lm_tape_e hM hw ho ht K
      · obtain ⟨k, hk, ek⟩ := s5_k qs p2
        subst ek
        exact lm_tape_k hM hw ho ht hk K
    · skip
      refine x_if_eq_t (pc := 17) (tgt := 30) dX10_tape_17 (by decide) (by decide) ?_
      refine x_bipush (pc := 30) (v := -2) dX10_tape_30 (by decide) ?_
      refine x_ireturn (pc := 32) dX10_tape_32 ⟨_, rfl, rfl⟩ ⟨Nat.le_refl _, Nat.le_refl _⟩ ?_
      have e9 : spTape W (nI t) s y = (-2, W) := spTape_s ht (fun q => by subst q; rcases g1 with z | z <;> exact absurd z (by decide)) (g1.imp (fun q => Int32.lt_iff_toInt_lt.mpr (by have := Int32.lt_iff_toInt_lt.mp q; have e1 : (-1 : Int32).toInt = -1 := rfl; have e0 : (0 : Int32).toInt = 0 := rfl; omega)) id)
      have h9 := K I L (by rw [e9]; exact hw) (fun _ _ _ => rfl) (fun _ _ _ => rfl)
      rw [e9] at h9
      exact h9
  · skip
    refine x_if_ne_f (pc := 5) (tgt := 10) dX10_tape_5 (by decide) (by decide) ?_
    refine x_iconst (pc := 8) (v := -1) dX10_tape_8 (by decide) ?_
    refine x_ireturn (pc := 9) dX10_tape_9 ⟨_, rfl, rfl⟩ ⟨Nat.le_refl _, Nat.le_refl _⟩ ?_
    have h9 := K I L (by rw [spTape_n h1]; exact hw) (fun _ _ _ => rfl) (fun _ _ _ => rfl)
    rw [spTape_n h1] at h9
    exact h9

set_option maxHeartbeats 4000000 in
set_option maxRecDepth 100000 in
theorem m_narrow {T : xT} {n : Nat} {sh : Nat → Nat × Nat} {I : xI} {R : xR} {L : xL} {P : xPost} {M : Nat} {s : Int32} {v : Int64} (K : P (n, sh, 0, 0) I R L (some (.long (nar s v))))  : XM T zX10_narrow 0 [.ref M, .int s, .long v] n sh I R L P := by
  refine x_iload_n (pc := 0) dX10_narrow_0 rfl rfl ?_
  refine x_if_ne (pc := 1) (tgt := 11) dX10_narrow_1 (by decide) (fun c1 => ?_) (fun c1 => ?_)
  · skip
    refine x_iload_n (pc := 11) dX10_narrow_11 rfl rfl ?_
    refine x_iconst (pc := 12) (v := 1) dX10_narrow_12 (by decide) ?_
    refine x_icmp_ne (pc := 13) (tgt := 23) dX10_narrow_13 (by decide) (fun c13 => ?_) (fun c13 => ?_)
    · skip
      refine x_iload_n (pc := 23) dX10_narrow_23 rfl rfl ?_
      refine x_iconst (pc := 24) (v := 2) dX10_narrow_24 (by decide) ?_
      refine x_icmp_ne (pc := 25) (tgt := 34) dX10_narrow_25 (by decide) (fun c25 => ?_) (fun c25 => ?_)
      · skip
        refine x_iload_n (pc := 34) dX10_narrow_34 rfl rfl ?_
        refine x_iconst (pc := 35) (v := 4) dX10_narrow_35 (by decide) ?_
        refine x_icmp_ne (pc := 36) (tgt := 53) dX10_narrow_36 (by decide) (fun c36 => ?_) (fun c36 => ?_)
        · skip
          refine x_lload_n (pc := 53) dX10_narrow_53 rfl rfl ?_
          refine x_lreturn (pc := 54) dX10_narrow_54 rfl ⟨Nat.le_refl _, Nat.le_refl _⟩ ?_
          unfold nar at K
          first | (rw [if_pos c1] at K; exact K) | (rw [if_neg c1, if_pos c13] at K; exact K) | (rw [if_neg c1, if_neg c13, if_pos c25] at K; exact K) | (rw [if_neg c1, if_neg c13, if_neg c25, if_pos c36, if_pos c42] at K; exact K) | (rw [if_neg c1, if_neg c13, if_neg c25, if_pos c36, if_neg c42] at K; exact K) | (rw [if_neg c1, if_neg c13, if_neg c25, if_neg c36] at K; exact K)
        · skip
          refine x_lload_n (pc := 39) dX10_narrow_39 rfl rfl ?_
          refine x_lconst (pc := 40) (v := 0) dX10_narrow_40 (by decide) ?_
          refine x_lcmp (pc := 41) dX10_narrow_41 ?_
          refine x_if_eq (pc := 42) (tgt := 49) dX10_narrow_42 (by decide) (fun c42 => ?_) (fun c42 => ?_)
          · skip
            refine x_lconst (pc := 49) (v := 0) dX10_narrow_49 (by decide) ?_
            refine x_goto (pc := 50) (tgt := 54) dX10_narrow_50 (by decide) ?_
            refine x_lreturn (pc := 54) dX10_narrow_54 rfl ⟨Nat.le_refl _, Nat.le_refl _⟩ ?_
            unfold nar at K
            first | (rw [if_pos c1] at K; exact K) | (rw [if_neg c1, if_pos c13] at K; exact K) | (rw [if_neg c1, if_neg c13, if_pos c25] at K; exact K) | (rw [if_neg c1, if_neg c13, if_neg c25, if_pos c36, if_pos c42] at K; exact K) | (rw [if_neg c1, if_neg c13, if_neg c25, if_pos c36, if_neg c42] at K; exact K) | (rw [if_neg c1, if_neg c13, if_neg c25, if_neg c36] at K; exact K)
          · skip
            refine x_lconst (pc := 45) (v := 1) dX10_narrow_45 (by decide) ?_
            refine x_goto (pc := 46) (tgt := 54) dX10_narrow_46 (by decide) ?_
            refine x_lreturn (pc := 54) dX10_narrow_54 rfl ⟨Nat.le_refl _, Nat.le_refl _⟩ ?_
            unfold nar at K
            first | (rw [if_pos c1] at K; exact K) | (rw [if_neg c1, if_pos c13] at K; exact K) | (rw [if_neg c1, if_neg c13, if_pos c25] at K; exact K) | (rw [if_neg c1, if_neg c13, if_neg c25, if_pos c36, if_pos c42] at K; exact K) | (rw [if_neg c1, if_neg c13, if_neg c25, if_pos c36, if_neg c42] at K; exact K) | (rw [if_neg c1, if_neg c13, if_neg c25, if_neg c36] at K; exact K)
      · skip
        refine x_lload_n (pc := 28) dX10_narrow_28 rfl rfl ?_
        refine x_l2i (pc := 29) dX10_narrow_29 ?_
        refine x_i2l (pc := 30) dX10_narrow_30 ?_
        refine x_goto (pc := 31) (tgt := 54) dX10_narrow_31 (by decide) ?_
        refine x_lreturn (pc := 54) dX10_narrow_54 rfl ⟨Nat.le_refl _, Nat.le_refl _⟩ ?_
        unfold nar at K
        first | (rw [if_pos c1] at K; exact K) | (rw [if_neg c1, if_pos c13] at K; exact K) | (rw [if_neg c1, if_neg c13, if_pos c25] at K; exact K) | (rw [if_neg c1, if_neg c13, if_neg c25, if_pos c36, if_pos c42] at K; exact K) | (rw [if_neg c1, if_neg c13, if_neg c25, if_pos c36, if_neg c42] at K; exact K) | (rw [if_neg c1, if_neg c13, if_neg c25, if_neg c36] at K; exact K)
    · skip
      refine x_lload_n (pc := 16) dX10_narrow_16 rfl rfl ?_
      refine x_l2i (pc := 17) dX10_narrow_17 ?_
      refine x_i2s (pc := 18) dX10_narrow_18 ?_
      refine x_i2l (pc := 19) dX10_narrow_19 ?_
      refine x_goto (pc := 20) (tgt := 54) dX10_narrow_20 (by decide) ?_
      refine x_lreturn (pc := 54) dX10_narrow_54 rfl ⟨Nat.le_refl _, Nat.le_refl _⟩ ?_
      unfold nar at K
      first | (rw [if_pos c1] at K; exact K) | (rw [if_neg c1, if_pos c13] at K; exact K) | (rw [if_neg c1, if_neg c13, if_pos c25] at K; exact K) | (rw [if_neg c1, if_neg c13, if_neg c25, if_pos c36, if_pos c42] at K; exact K) | (rw [if_neg c1, if_neg c13, if_neg c25, if_pos c36, if_neg c42] at K; exact K) | (rw [if_neg c1, if_neg c13, if_neg c25, if_neg c36] at K; exact K)
  · skip
    refine x_lload_n (pc := 4) dX10_narrow_4 rfl rfl ?_
    refine x_l2i (pc := 5) dX10_narrow_5 ?_
    refine x_i2b (pc := 6) dX10_narrow_6 ?_
    refine x_i2l (pc := 7) dX10_narrow_7 ?_
    refine x_goto (pc := 8) (tgt := 54) dX10_narrow_8 (by decide) ?_
    refine x_lreturn (pc := 54) dX10_narrow_54 rfl ⟨Nat.le_refl _, Nat.le_refl _⟩ ?_
    unfold nar at K
    first | (rw [if_pos c1] at K; exact K) | (rw [if_neg c1, if_pos c13] at K; exact K) | (rw [if_neg c1, if_neg c13, if_pos c25] at K; exact K) | (rw [if_neg c1, if_neg c13, if_neg c25, if_pos c36, if_pos c42] at K; exact K) | (rw [if_neg c1, if_neg c13, if_neg c25, if_pos c36, if_neg c42] at K; exact K) | (rw [if_neg c1, if_neg c13, if_neg c25, if_neg c36] at K; exact K)

set_option maxHeartbeats 4000000 in
set_option maxRecDepth 100000 in
theorem m_itemIt {T : xT} {n : Nat} {sh : Nat → Nat × Nat} {I : xI} {R : xR} {L : xL} {P : xPost} {M : Nat} (hM : xModel sh R M) {W : xW} (hw : TPM I L M W) (ho : TOK W) {x y : Int32} {v : Int64} (K : ∀ (I2 : xI) (L2 : xL), TPM I2 L2 M (spItem W x y v).2 → tpI M I I2 → tpL M L L2 → P (n, sh, 0, 0) I2 R L2 (some (.int (spItem W x y v).1)))  : XM T zX10_item 2 [.ref M, .int x, .int y, .long v] n sh I R L P := by
  refine x_aload_n (pc := 0) dX10_item_0 rfl rfl ?_
  refine x_iload_n (pc := 1) dX10_item_1 rfl rfl ?_
  refine x_callV (pc := 2) (As := [.int _]) dX10_item_2 km_X10_isTape kv_X10_isTape kl_RX10_382 hM.s rfl rfl (by decide) ⟨Nat.le_refl _, Nat.le_refl _⟩ rfl (Nat.le_of_ble_eq_true rfl) (Nat.le_of_ble_eq_true rfl) (m_isTape hM (fun t ht et => ⟨rfl, rfl, ?_⟩) (fun h1 => ⟨rfl, rfl, ?_⟩))
  · skip
    subst et
    obtain ⟨wt1, wt2, wt3⟩ := hw t ht
    have kt := ho t ht
    have ot1 := kt.1
    refine x_if_ne_t (pc := 5) (tgt := 10) dX10_item_5 (by decide) (by decide) ?_
    refine x_aload_n (pc := 10) dX10_item_10 rfl rfl ?_
    refine x_getr (pc := 11) dX10_item_11 kf_RX10_211 hM.s rfl hM.f35 ?_
    refine x_iload_n (pc := 14) dX10_item_14 rfl rfl ?_
    refine x_ialdn (pc := 15) (a := t) dX10_item_15 hM.s35 (by omega) (by omega) ?_
    rw [wt1]
    refine x_if_ge (pc := 16) (tgt := 22) dX10_item_16 (by decide) (fun c16 => ?_) (fun c16 => ?_)
    · skip
      refine x_aload_n (pc := 22) dX10_item_22 rfl rfl ?_
      refine x_iload_n (pc := 23) dX10_item_23 rfl rfl ?_
      refine x_iconst (pc := 24) (v := 0) dX10_item_24 (by decide) ?_
      refine x_aload_n (pc := 25) dX10_item_25 rfl rfl ?_
      refine x_getr (pc := 26) dX10_item_26 kf_RX10_214 hM.s rfl hM.f36 ?_
      refine x_iload_n (pc := 29) dX10_item_29 rfl rfl ?_
      refine x_ialdn (pc := 30) (a := t) dX10_item_30 hM.s36 (by omega) (by omega) ?_
      rw [wt2]
      refine x_iconst (pc := 31) (v := 1) dX10_item_31 (by decide) ?_
      refine x_isub (pc := 32) dX10_item_32 ?_
      refine x_callV (pc := 33) (As := [.int _, .int _, .int _]) dX10_item_33 km_X10_in kv_X10_in kl_RX10_231 hM.s rfl rfl (by decide) ⟨Nat.le_refl _, Nat.le_refl _⟩ rfl (Nat.le_of_ble_eq_true rfl) (Nat.le_of_ble_eq_true rfl) (m_in hM.s (fun p1 p2 => ⟨rfl, rfl, ?_⟩) (fun g1 => ⟨rfl, rfl, ?_⟩))
      · skip
        obtain ⟨k, hk, ek⟩ := len_in (by omega) p1 p2
        subst ek
        refine x_if_ne_t (pc := 36) (tgt := 42) dX10_item_36 (by decide) (by decide) ?_
        refine x_aload_n (pc := 42) dX10_item_42 rfl rfl ?_
        refine x_getr (pc := 43) dX10_item_43 kf_RX10_217 hM.s rfl hM.f37 ?_
        refine x_bipush (pc := 46) (v := 60) dX10_item_46 (by decide) ?_
        refine x_iload_n (pc := 48) dX10_item_48 rfl rfl ?_
        refine x_imuln (pc := 49) (a := 60) (b := t) dX10_item_49 ?_
        refine x_iload_n (pc := 50) dX10_item_50 rfl rfl ?_
        refine x_iaddn (pc := 51) (a := (60 * t)) (b := k) dX10_item_51 ?_
        refine x_aload_n (pc := 52) dX10_item_52 rfl rfl ?_
        refine x_aload_n (pc := 53) dX10_item_53 rfl rfl ?_
        refine x_getr (pc := 54) dX10_item_54 kf_RX10_211 hM.s rfl hM.f35 ?_
        refine x_iload_n (pc := 57) dX10_item_57 rfl rfl ?_
        refine x_ialdn (pc := 58) (a := t) dX10_item_58 hM.s35 (by omega) (by omega) ?_
        rw [wt1]
        refine x_lload_n (pc := 59) dX10_item_59 rfl rfl ?_
        refine x_callV (pc := 60) (As := [.int _, .long _]) dX10_item_60 km_X10_narrow kv_X10_narrow kl_RX10_416 hM.s rfl rfl (by decide) ⟨Nat.le_refl _, Nat.le_refl _⟩ rfl (Nat.le_of_ble_eq_true rfl) (Nat.le_of_ble_eq_true rfl) (m_narrow (⟨rfl, rfl, ?_⟩))
        refine x_lastn (pc := 63) (a := ((60 * t) + k)) dX10_item_63 hM.s37 (by omega) (by omega) ?_
        refine x_iconst (pc := 64) (v := 1) dX10_item_64 (by decide) ?_
        refine x_ireturn (pc := 65) dX10_item_65 ⟨_, rfl, rfl⟩ ⟨Nat.le_refl _, Nat.le_refl _⟩ ?_
        have e9 := spItem_s (v := v) ht (fun q => absurd ((tok_neg kt).mpr q) (i32_nlt c16)) ot1 hk
        have h9 := K I _ (by rw [e9]; exact hw.set (L' := up2 L (M + 38) (60 * t + k) (nar (W t).1 v)) ho ht (fun u p => ⟨rfl, rfl⟩) (fun j p => up2_k (by omega)) wt1 wt2 (fun i hi => by show up2 L (M + 38) (60 * t + k) (nar (W t).1 v) (M + 38) (60 * t + i) = (if i = k then nar (W t).1 v else (W t).2.2 i); by_cases q : i = k; rw [q, up2_s, if_pos rfl]; rw [up2_k (by omega), wt3 i hi, if_neg q])) (fun _ _ _ => rfl) (fun a p1 _ => up2_row p1)
        rw [e9] at h9
        exact h9
      · skip
        refine x_if_ne_f (pc := 36) (tgt := 42) dX10_item_36 (by decide) (by decide) ?_
        refine x_bipush (pc := 39) (v := -13) dX10_item_39 (by decide) ?_
        refine x_ireturn (pc := 41) dX10_item_41 ⟨_, rfl, rfl⟩ ⟨Nat.le_refl _, Nat.le_refl _⟩ ?_
        have h9 := K I L (by rw [spItem_p ht (fun q => absurd ((tok_neg kt).mpr q) (i32_nlt c16)) (len_out (by omega) g1)]; exact hw) (fun _ _ _ => rfl) (fun _ _ _ => rfl)
        rw [spItem_p ht (fun q => absurd ((tok_neg kt).mpr q) (i32_nlt c16)) (len_out (by omega) g1)] at h9
        exact h9
    · skip
      refine x_bipush (pc := 19) (v := -11) dX10_item_19 (by decide) ?_
      refine x_ireturn (pc := 21) dX10_item_21 ⟨_, rfl, rfl⟩ ⟨Nat.le_refl _, Nat.le_refl _⟩ ?_
      have h9 := K I L (by rw [spItem_e ht ((tok_neg kt).mp (i32_lt c16))]; exact hw) (fun _ _ _ => rfl) (fun _ _ _ => rfl)
      rw [spItem_e ht ((tok_neg kt).mp (i32_lt c16))] at h9
      exact h9
  · skip
    refine x_if_ne_f (pc := 5) (tgt := 10) dX10_item_5 (by decide) (by decide) ?_
    refine x_iconst (pc := 8) (v := -1) dX10_item_8 (by decide) ?_
    refine x_ireturn (pc := 9) dX10_item_9 ⟨_, rfl, rfl⟩ ⟨Nat.le_refl _, Nat.le_refl _⟩ ?_
    have h9 := K I L (by rw [spItem_n h1]; exact hw) (fun _ _ _ => rfl) (fun _ _ _ => rfl)
    rw [spItem_n h1] at h9
    exact h9

set_option maxHeartbeats 4000000 in
set_option maxRecDepth 100000 in
theorem m_readIt {T : xT} {n : Nat} {sh : Nat → Nat × Nat} {I : xI} {R : xR} {L : xL} {P : xPost} {M : Nat} (hM : xModel sh R M) {W : xW} (hw : TPM I L M W) (ho : TOK W) {x y : Int32} (K : P (n, sh, 0, 0) I R L (some (.long (spRead W x y))))  : XM T zX10_read 2 [.ref M, .int x, .int y] n sh I R L P := by
  refine x_aload_n (pc := 0) dX10_read_0 rfl rfl ?_
  refine x_iload_n (pc := 1) dX10_read_1 rfl rfl ?_
  refine x_callV (pc := 2) (As := [.int _]) dX10_read_2 km_X10_isTape kv_X10_isTape kl_RX10_382 hM.s rfl rfl (by decide) ⟨Nat.le_refl _, Nat.le_refl _⟩ rfl (Nat.le_of_ble_eq_true rfl) (Nat.le_of_ble_eq_true rfl) (m_isTape hM (fun t ht et => ⟨rfl, rfl, ?_⟩) (fun h1 => ⟨rfl, rfl, ?_⟩))
  · skip
    subst et
    obtain ⟨wt1, wt2, wt3⟩ := hw t ht
    have kt := ho t ht
    have ot1 := kt.1
    refine x_if_eq_f (pc := 5) (tgt := 34) dX10_read_5 (by decide) (by decide) ?_
    refine x_aload_n (pc := 8) dX10_read_8 rfl rfl ?_
    refine x_getr (pc := 9) dX10_read_9 kf_RX10_211 hM.s rfl hM.f35 ?_
    refine x_iload_n (pc := 12) dX10_read_12 rfl rfl ?_
    refine x_ialdn (pc := 13) (a := t) dX10_read_13 hM.s35 (by omega) (by omega) ?_
    rw [wt1]
    refine x_if_lt (pc := 14) (tgt := 34) dX10_read_14 (by decide) (fun c14 => ?_) (fun c14 => ?_)
    · skip
      refine x_ldc2 (pc := 34) (v := -9223372036854775808) dX10_read_34 kk_RX10_371 ?_
      refine x_goto (pc := 37) (tgt := 51) dX10_read_37 (by decide) ?_
      refine x_lreturn (pc := 51) dX10_read_51 rfl ⟨Nat.le_refl _, Nat.le_refl _⟩ ?_
      first | (rw [spRead_n h1] at K; exact K) | (rw [spRead_e ht ((tok_neg kt).mp c14)] at K; exact K) | (rw [spRead_p ht (len_out (by omega) g1)] at K; exact K) | (rw [spRead_s ht (fun q => c14 ((tok_neg kt).mpr q)) ot1 hk] at K; rw [wt3 k hk]; exact K)
    · skip
      refine x_aload_n (pc := 17) dX10_read_17 rfl rfl ?_
      refine x_iload_n (pc := 18) dX10_read_18 rfl rfl ?_
      refine x_iconst (pc := 19) (v := 0) dX10_read_19 (by decide) ?_
      refine x_aload_n (pc := 20) dX10_read_20 rfl rfl ?_
      refine x_getr (pc := 21) dX10_read_21 kf_RX10_214 hM.s rfl hM.f36 ?_
      refine x_iload_n (pc := 24) dX10_read_24 rfl rfl ?_
      refine x_ialdn (pc := 25) (a := t) dX10_read_25 hM.s36 (by omega) (by omega) ?_
      rw [wt2]
      refine x_iconst (pc := 26) (v := 1) dX10_read_26 (by decide) ?_
      refine x_isub (pc := 27) dX10_read_27 ?_
      refine x_callV (pc := 28) (As := [.int _, .int _, .int _]) dX10_read_28 km_X10_in kv_X10_in kl_RX10_231 hM.s rfl rfl (by decide) ⟨Nat.le_refl _, Nat.le_refl _⟩ rfl (Nat.le_of_ble_eq_true rfl) (Nat.le_of_ble_eq_true rfl) (m_in hM.s (fun p1 p2 => ⟨rfl, rfl, ?_⟩) (fun g1 => ⟨rfl, rfl, ?_⟩))
      · skip
        obtain ⟨k, hk, ek⟩ := len_in (by omega) p1 p2
        subst ek
        refine x_if_ne_t (pc := 31) (tgt := 40) dX10_read_31 (by decide) (by decide) ?_
        refine x_aload_n (pc := 40) dX10_read_40 rfl rfl ?_
        refine x_getr (pc := 41) dX10_read_41 kf_RX10_217 hM.s rfl hM.f37 ?_
        refine x_bipush (pc := 44) (v := 60) dX10_read_44 (by decide) ?_
        refine x_iload_n (pc := 46) dX10_read_46 rfl rfl ?_
        refine x_imuln (pc := 47) (a := 60) (b := t) dX10_read_47 ?_
        refine x_iload_n (pc := 48) dX10_read_48 rfl rfl ?_
        refine x_iaddn (pc := 49) (a := (60 * t)) (b := k) dX10_read_49 ?_
        refine x_laldn (pc := 50) (a := ((60 * t) + k)) dX10_read_50 hM.s37 (by omega) (by omega) ?_
        refine x_lreturn (pc := 51) dX10_read_51 rfl ⟨Nat.le_refl _, Nat.le_refl _⟩ ?_
        first | (rw [spRead_n h1] at K; exact K) | (rw [spRead_e ht ((tok_neg kt).mp c14)] at K; exact K) | (rw [spRead_p ht (len_out (by omega) g1)] at K; exact K) | (rw [spRead_s ht (fun q => c14 ((tok_neg kt).mpr q)) ot1 hk] at K; rw [wt3 k hk]; exact K)
      · skip
        refine x_if_ne_f (pc := 31) (tgt := 40) dX10_read_31 (by decide) (by decide) ?_
        refine x_ldc2 (pc := 34) (v := -9223372036854775808) dX10_read_34 kk_RX10_371 ?_
        refine x_goto (pc := 37) (tgt := 51) dX10_read_37 (by decide) ?_
        refine x_lreturn (pc := 51) dX10_read_51 rfl ⟨Nat.le_refl _, Nat.le_refl _⟩ ?_
        first | (rw [spRead_n h1] at K; exact K) | (rw [spRead_e ht ((tok_neg kt).mp c14)] at K; exact K) | (rw [spRead_p ht (len_out (by omega) g1)] at K; exact K) | (rw [spRead_s ht (fun q => c14 ((tok_neg kt).mpr q)) ot1 hk] at K; rw [wt3 k hk]; exact K)
  · skip
    refine x_if_eq_t (pc := 5) (tgt := 34) dX10_read_5 (by decide) (by decide) ?_
    refine x_ldc2 (pc := 34) (v := -9223372036854775808) dX10_read_34 kk_RX10_371 ?_
    refine x_goto (pc := 37) (tgt := 51) dX10_read_37 (by decide) ?_
    refine x_lreturn (pc := 51) dX10_read_51 rfl ⟨Nat.le_refl _, Nat.le_refl _⟩ ?_
    first | (rw [spRead_n h1] at K; exact K) | (rw [spRead_e ht ((tok_neg kt).mp c14)] at K; exact K) | (rw [spRead_p ht (len_out (by omega) g1)] at K; exact K) | (rw [spRead_s ht (fun q => c14 ((tok_neg kt).mpr q)) ot1 hk] at K; rw [wt3 k hk]; exact K)

set_option maxHeartbeats 4000000 in
set_option maxRecDepth 100000 in
theorem lm_shift1 {T : xT} {n : Nat} {sh : Nat → Nat × Nat} {I : xI} {R : xR} {L : xL} {P : xPost} {M s g a b m : Nat} (hM : xModel sh R M) (hs : s < 6) (hg : g < 6) (ha : a + m ≤ 60) (hb : b + m ≤ 60) (K : ∀ Q : xL, (∀ j, j < m → Q (M + 39) j = L (M + 38) (60 * s + a + j)) → (∀ q, q ≠ M + 39 → Q q = L q) → X T zX10_shift 2 0 0 P 138 [(0, .ref M), (1, .int (nI s)), (2, .int (nI a)), (3, .int (nI g)), (4, .int (nI b)), (5, .int (nI m)), (6, .int (nI m))] [] (n, sh, 0, 0) I R Q)  : ∀ (w i : Nat), i + w = m → ∀ (Q : xL), (∀ j, j < i → Q (M + 39) j = L (M + 38) (60 * s + a + j)) → (∀ q, q ≠ M + 39 → Q q = L q) → X T zX10_shift 2 0 0 P 104 [(0, .ref M), (1, .int (nI s)), (2, .int (nI a)), (3, .int (nI g)), (4, .int (nI b)), (5, .int (nI m)), (6, .int (nI i))] [] (n, sh, 0, 0) (I) R Q := by
  intro w
  induction w with
  | zero =>
    intro i hw Q q1 q2
    have hz : i = m := by omega
    refine x_iload (pc := 104) dX10_shift_104 rfl ?_
    refine x_iload (pc := 106) dX10_shift_106 rfl ?_
    refine x_icmpn_ge_t (pc := 108) (tgt := 138) (a := i) (b := m) dX10_shift_108 (by decide) (by omega) (by omega) (by omega) ?_
    have h9 := K Q (fun j hj => q1 j (by omega)) q2
    rw [hz]
    exact h9
  | succ w ih =>
    intro i hw Q q1 q2
    have hi : i < m := by omega
    refine x_iload (pc := 104) dX10_shift_104 rfl ?_
    refine x_iload (pc := 106) dX10_shift_106 rfl ?_
    refine x_icmpn_ge_f (pc := 108) (tgt := 138) (a := i) (b := m) dX10_shift_108 (by decide) (by omega) (by omega) (by omega) ?_
    refine x_aload_n (pc := 111) dX10_shift_111 rfl rfl ?_
    refine x_getr (pc := 112) dX10_shift_112 kf_RX10_221 hM.s rfl hM.f38 ?_
    refine x_iload (pc := 115) dX10_shift_115 rfl ?_
    refine x_aload_n (pc := 117) dX10_shift_117 rfl rfl ?_
    refine x_getr (pc := 118) dX10_shift_118 kf_RX10_217 hM.s rfl hM.f37 ?_
    refine x_bipush (pc := 121) (v := 60) dX10_shift_121 (by decide) ?_
    refine x_iload_n (pc := 123) dX10_shift_123 rfl rfl ?_
    refine x_imuln (pc := 124) (a := 60) (b := s) dX10_shift_124 ?_
    refine x_iload_n (pc := 125) dX10_shift_125 rfl rfl ?_
    refine x_iaddn (pc := 126) (a := (60 * s)) (b := a) dX10_shift_126 ?_
    refine x_iload (pc := 127) dX10_shift_127 rfl ?_
    refine x_iaddn (pc := 129) (a := ((60 * s) + a)) (b := i) dX10_shift_129 ?_
    refine x_laldn (pc := 130) (a := (((60 * s) + a) + i)) dX10_shift_130 hM.s37 (by omega) (by omega) ?_
    refine x_lastn (pc := 131) (a := i) dX10_shift_131 hM.s38 (by omega) (by omega) ?_
    refine x_iinc (pc := 132) (v := nI (i + 1)) (lv' := [(0, .ref M), (1, .int (nI s)), (2, .int (nI a)), (3, .int (nI g)), (4, .int (nI b)), (5, .int (nI m)), (6, .int (nI (i + 1)))]) dX10_shift_132 rfl (nI_1 _) (by decide) rfl ?_
    refine x_goto (pc := 135) (tgt := 104) dX10_shift_135 (by decide) ?_
    refine ih (i + 1) (by omega) _ (fun j hj => ?_) (fun q p => (up2_row p).trans (q2 q p))
    rcases Nat.lt_succ_iff_lt_or_eq.mp hj with e | e
    · rw [up2_k (by omega)]
      exact q1 j e
    · rw [e, up2_s, q2 _ (by omega)]

set_option maxHeartbeats 4000000 in
set_option maxRecDepth 100000 in
theorem lm_shift2 {T : xT} {n : Nat} {sh : Nat → Nat × Nat} {I : xI} {R : xR} {L : xL} {P : xPost} {M s g a b m : Nat} (hM : xModel sh R M) (hs : s < 6) (hg : g < 6) (ha : a + m ≤ 60) (hb : b + m ≤ 60) {g0 : Nat → Int64} (hq : ∀ j, j < m → L (M + 39) j = g0 j) (K : ∀ Q : xL, (∀ j, j < m → Q (M + 38) (60 * g + b + j) = g0 j) → (∀ j, (j < 60 * g + b ∨ 60 * g + b + m ≤ j) → Q (M + 38) j = L (M + 38) j) → (∀ q, q ≠ M + 38 → Q q = L q) → P (n, sh, 0, 0) I R Q (some (.int (nI m))))  : ∀ (w i : Nat), i + w = m → ∀ (Q : xL), (∀ j, j < i → Q (M + 38) (60 * g + b + j) = g0 j) → (∀ j, (j < 60 * g + b ∨ 60 * g + b + m ≤ j) → Q (M + 38) j = L (M + 38) j) → (∀ q, q ≠ M + 38 → Q q = L q) → X T zX10_shift 2 0 0 P 141 [(0, .ref M), (1, .int (nI s)), (2, .int (nI a)), (3, .int (nI g)), (4, .int (nI b)), (5, .int (nI m)), (6, .int (nI i))] [] (n, sh, 0, 0) (I) R Q := by
  intro w
  induction w with
  | zero =>
    intro i hw Q q1 q2 q3
    have hz : i = m := by omega
    refine x_iload (pc := 141) dX10_shift_141 rfl ?_
    refine x_iload (pc := 143) dX10_shift_143 rfl ?_
    refine x_icmpn_ge_t (pc := 145) (tgt := 176) (a := i) (b := m) dX10_shift_145 (by decide) (by omega) (by omega) (by omega) ?_
    refine x_iload (pc := 176) dX10_shift_176 rfl ?_
    refine x_ireturn (pc := 178) dX10_shift_178 ⟨_, rfl, rfl⟩ ⟨Nat.le_refl _, Nat.le_refl _⟩ ?_
    exact K Q (fun j hj => q1 j (by omega)) q2 q3
  | succ w ih =>
    intro i hw Q q1 q2 q3
    have hi : i < m := by omega
    refine x_iload (pc := 141) dX10_shift_141 rfl ?_
    refine x_iload (pc := 143) dX10_shift_143 rfl ?_
    refine x_icmpn_ge_f (pc := 145) (tgt := 176) (a := i) (b := m) dX10_shift_145 (by decide) (by omega) (by omega) (by omega) ?_
    refine x_aload_n (pc := 148) dX10_shift_148 rfl rfl ?_
    refine x_getr (pc := 149) dX10_shift_149 kf_RX10_217 hM.s rfl hM.f37 ?_
    refine x_bipush (pc := 152) (v := 60) dX10_shift_152 (by decide) ?_
    refine x_iload_n (pc := 154) dX10_shift_154 rfl rfl ?_
    refine x_imuln (pc := 155) (a := 60) (b := g) dX10_shift_155 ?_
    refine x_iload (pc := 156) dX10_shift_156 rfl ?_
    refine x_iaddn (pc := 158) (a := (60 * g)) (b := b) dX10_shift_158 ?_
    refine x_iload (pc := 159) dX10_shift_159 rfl ?_
    refine x_iaddn (pc := 161) (a := ((60 * g) + b)) (b := i) dX10_shift_161 ?_
    refine x_aload_n (pc := 162) dX10_shift_162 rfl rfl ?_
    refine x_getr (pc := 163) dX10_shift_163 kf_RX10_221 hM.s rfl hM.f38 ?_
    refine x_iload (pc := 166) dX10_shift_166 rfl ?_
    refine x_laldn (pc := 168) (a := i) dX10_shift_168 hM.s38 (by omega) (by omega) ?_
    rw [q3 (M + 39) (by omega), hq i hi]
    refine x_lastn (pc := 169) (a := (((60 * g) + b) + i)) dX10_shift_169 hM.s37 (by omega) (by omega) ?_
    refine x_iinc (pc := 170) (v := nI (i + 1)) (lv' := [(0, .ref M), (1, .int (nI s)), (2, .int (nI a)), (3, .int (nI g)), (4, .int (nI b)), (5, .int (nI m)), (6, .int (nI (i + 1)))]) dX10_shift_170 rfl (nI_1 _) (by decide) rfl ?_
    refine x_goto (pc := 173) (tgt := 141) dX10_shift_173 (by decide) ?_
    refine ih (i + 1) (by omega) _ (fun j hj => ?_) (fun j p => (up2_k (by omega)).trans (q2 j p)) (fun q p => (up2_row p).trans (q3 q p))
    rcases Nat.lt_succ_iff_lt_or_eq.mp hj with e | e
    · rw [up2_k (by omega)]
      exact q1 j e
    · rw [e, up2_s]

theorem sh_no {le p q : Nat} {x n : Int32} (hl : le ≤ 60) (ep : x = nI p) (eq : n = nI q) (h : p + q ≤ le) (c : nI le - n < x) : False := by
  rw [ep, eq] at c
  have := Int32.lt_iff_toInt_lt.mp c
  rw [sub_toI (by omega) (by omega), nI_toInt (by omega)] at this
  omega
theorem sh_yes {le p q : Nat} (hl : le ≤ 60) (hp : p < 2 ^ 31) (hq : q < 2 ^ 31) (c : nI p ≤ nI le - nI q) : p + q ≤ le := by
  have := Int32.le_iff_toInt_le.mp c
  rw [sub_toI (by omega) hq, nI_toInt hp] at this
  omega

set_option maxHeartbeats 4000000 in
set_option maxRecDepth 100000 in
theorem lm_shift3 {T : xT} {n : Nat} {sh : Nat → Nat × Nat} {I : xI} {R : xR} {L : xL} {P : xPost} {M : Nat} (hM : xModel sh R M) {W : xW} (hw : TPM I L M W) (ho : TOK W) {s g a b m : Nat} (hs : s < 6) (hg : g < 6) (n1 : ¬ (W s).1 = -1) (n2 : ¬ (W g).1 = -1) (ee : (W s).1 = (W g).1) (ha : a + m ≤ (W s).2.1) (hb : b + m ≤ (W g).2.1) {Q : xL} (q1 : ∀ j, j < m → Q (M + 39) j = L (M + 38) (60 * s + a + j)) (q2 : ∀ q, q ≠ M + 39 → Q q = L q) (K : ∀ (I2 : xI) (L2 : xL), TPM I2 L2 M (spShift W (nI s) (nI a) (nI g) (nI b) (nI m)).2 → tpI M I I2 → tpL M L L2 → P (n, sh, 0, 0) I2 R L2 (some (.int (spShift W (nI s) (nI a) (nI g) (nI b) (nI m)).1)))  :  X T zX10_shift 2 0 0 P 138 [(0, .ref M), (1, .int (nI s)), (2, .int (nI a)), (3, .int (nI g)), (4, .int (nI b)), (5, .int (nI m)), (6, .int (nI m))] [] (n, sh, 0, 0) (I) R Q := by
  obtain ⟨ws1, ws2, ws3⟩ := hw s hs
  obtain ⟨wg1, wg2, wg3⟩ := hw g hg
  have os1 := (ho s hs).1
  have og1 := (ho g hg).1
  refine x_iconst (pc := 138) (v := 0) dX10_shift_138 (by decide) ?_
  refine x_istore (pc := 139) (lv' := [(0, .ref M), (1, .int (nI s)), (2, .int (nI a)), (3, .int (nI g)), (4, .int (nI b)), (5, .int (nI m)), (6, .int 0)]) dX10_shift_139 (by decide) rfl ?_
  refine lm_shift2 (L := Q) hM hs hg (by omega) (by omega) (g0 := fun j => (W s).2.2 (a + j)) (fun j hj => (q1 j hj).trans ((congrArg (L (M + 38)) (Nat.add_assoc _ _ _)).trans (ws3 _ (by omega)))) (fun Q2 r1 r2 r3 => ?_) m 0 (by omega) Q (fun j hj => absurd hj (by omega)) (fun _ _ => rfl) (fun _ _ => rfl)
  have e9 := spSh_s (W := W) hs hg n1 n2 ee os1 og1 ha hb
  have qm : Q (M + 38) = L (M + 38) := q2 _ (by omega)
  have h9 := K I Q2 (by rw [e9]; exact hw.set ho hg (fun u p => ⟨rfl, rfl⟩) (fun j p => (r2 j (by omega)).trans (congrFun qm j)) wg1 wg2 (fun i hi => by show Q2 (M + 38) (60 * g + i) = va_cpy (W s).2.2 (W g).2.2 a b m i; by_cases q : b ≤ i ∧ i < b + m; rw [pk_cpy_in q.1 q.2, show 60 * g + i = 60 * g + b + (i - b) by omega]; exact r1 _ (by omega); rw [pk_cpy_out (by omega), r2 _ (by omega), qm]; exact wg3 i hi)) (fun _ _ _ => rfl) (fun q p1 p2 => (r3 q p1).trans (q2 q p2))
  rw [e9] at h9
  exact h9

set_option maxHeartbeats 4000000 in
set_option maxRecDepth 100000 in
theorem m_shiftIt {T : xT} {n : Nat} {sh : Nat → Nat × Nat} {I : xI} {R : xR} {L : xL} {P : xPost} {M : Nat} (hM : xModel sh R M) {W : xW} (hw : TPM I L M W) (ho : TOK W) {x z y u v : Int32} (K : ∀ (I2 : xI) (L2 : xL), TPM I2 L2 M (spShift W x z y u v).2 → tpI M I I2 → tpL M L L2 → P (n, sh, 0, 0) I2 R L2 (some (.int (spShift W x z y u v).1)))  : XM T zX10_shift 2 [.ref M, .int x, .int z, .int y, .int u, .int v] n sh I R L P := by
  refine x_aload_n (pc := 0) dX10_shift_0 rfl rfl ?_
  refine x_iload_n (pc := 1) dX10_shift_1 rfl rfl ?_
  refine x_callV (pc := 2) (As := [.int _]) dX10_shift_2 km_X10_isTape kv_X10_isTape kl_RX10_382 hM.s rfl rfl (by decide) ⟨Nat.le_refl _, Nat.le_refl _⟩ rfl (Nat.le_of_ble_eq_true rfl) (Nat.le_of_ble_eq_true rfl) (m_isTape hM (fun s hs es => ⟨rfl, rfl, ?_⟩) (fun h1 => ⟨rfl, rfl, ?_⟩))
  · skip
    subst es
    obtain ⟨ws1, ws2, ws3⟩ := hw s hs
    have ks := ho s hs
    have os1 := ks.1
    refine x_if_eq_f (pc := 5) (tgt := 16) dX10_shift_5 (by decide) (by decide) ?_
    refine x_aload_n (pc := 8) dX10_shift_8 rfl rfl ?_
    refine x_iload_n (pc := 9) dX10_shift_9 rfl rfl ?_
    refine x_callV (pc := 10) (As := [.int _]) dX10_shift_10 km_X10_isTape kv_X10_isTape kl_RX10_382 hM.s rfl rfl (by decide) ⟨Nat.le_refl _, Nat.le_refl _⟩ rfl (Nat.le_of_ble_eq_true rfl) (Nat.le_of_ble_eq_true rfl) (m_isTape hM (fun g hg eg => ⟨rfl, rfl, ?_⟩) (fun h2 => ⟨rfl, rfl, ?_⟩))
    · skip
      subst eg
      obtain ⟨wg1, wg2, wg3⟩ := hw g hg
      have kg := ho g hg
      have og1 := kg.1
      refine x_if_ne_t (pc := 13) (tgt := 18) dX10_shift_13 (by decide) (by decide) ?_
      refine x_aload_n (pc := 18) dX10_shift_18 rfl rfl ?_
      refine x_getr (pc := 19) dX10_shift_19 kf_RX10_211 hM.s rfl hM.f35 ?_
      refine x_iload_n (pc := 22) dX10_shift_22 rfl rfl ?_
      refine x_ialdn (pc := 23) (a := s) dX10_shift_23 hM.s35 (by omega) (by omega) ?_
      rw [ws1]
      refine x_if_lt (pc := 24) (tgt := 36) dX10_shift_24 (by decide) (fun c24 => ?_) (fun c24 => ?_)
      · skip
        refine x_bipush (pc := 36) (v := -11) dX10_shift_36 (by decide) ?_
        refine x_ireturn (pc := 38) dX10_shift_38 ⟨_, rfl, rfl⟩ ⟨Nat.le_refl _, Nat.le_refl _⟩ ?_
        have e9 : spShift W (nI s) (z) (nI g) (u) (v) = (-11, W) := spSh_e hs hg (by first | exact Or.inl ((tok_neg ks).mp c24) | exact Or.inr ((tok_neg kg).mp (i32_lt c33)))
        have h9 := K I L (by rw [e9]; exact hw) (fun _ _ _ => rfl) (fun _ _ _ => rfl)
        rw [e9] at h9
        exact h9
      · skip
        refine x_aload_n (pc := 27) dX10_shift_27 rfl rfl ?_
        refine x_getr (pc := 28) dX10_shift_28 kf_RX10_211 hM.s rfl hM.f35 ?_
        refine x_iload_n (pc := 31) dX10_shift_31 rfl rfl ?_
        refine x_ialdn (pc := 32) (a := g) dX10_shift_32 hM.s35 (by omega) (by omega) ?_
        rw [wg1]
        refine x_if_ge (pc := 33) (tgt := 39) dX10_shift_33 (by decide) (fun c33 => ?_) (fun c33 => ?_)
        · skip
          refine x_aload_n (pc := 39) dX10_shift_39 rfl rfl ?_
          refine x_getr (pc := 40) dX10_shift_40 kf_RX10_211 hM.s rfl hM.f35 ?_
          refine x_iload_n (pc := 43) dX10_shift_43 rfl rfl ?_
          refine x_ialdn (pc := 44) (a := s) dX10_shift_44 hM.s35 (by omega) (by omega) ?_
          rw [ws1]
          refine x_aload_n (pc := 45) dX10_shift_45 rfl rfl ?_
          refine x_getr (pc := 46) dX10_shift_46 kf_RX10_211 hM.s rfl hM.f35 ?_
          refine x_iload_n (pc := 49) dX10_shift_49 rfl rfl ?_
          refine x_ialdn (pc := 50) (a := g) dX10_shift_50 hM.s35 (by omega) (by omega) ?_
          rw [wg1]
          refine x_icmp_eq (pc := 51) (tgt := 57) dX10_shift_51 (by decide) (fun c51 => ?_) (fun c51 => ?_)
          · skip
            refine x_iload (pc := 57) dX10_shift_57 rfl ?_
            refine x_if_lt (pc := 59) (tgt := 98) dX10_shift_59 (by decide) (fun c59 => ?_) (fun c59 => ?_)
            · skip
              refine x_bipush (pc := 98) (v := -13) dX10_shift_98 (by decide) ?_
              refine x_ireturn (pc := 100) dX10_shift_100 ⟨_, rfl, rfl⟩ ⟨Nat.le_refl _, Nat.le_refl _⟩ ?_
              have e9 : spShift W (nI s) (z) (nI g) (u) (v) = (-13, W) := spSh_p hs hg (fun q => c24 ((tok_neg ks).mpr q)) (fun q => absurd ((tok_neg kg).mpr q) (i32_nlt c33)) c51 (by first | exact Or.inl (fun ⟨p, q, ep, eq, hpq⟩ => absurd c59 (by rw [eq]; exact nI_pos (by omega))) | exact Or.inl (fun ⟨p, q, ep, eq, hpq⟩ => absurd c63 (by rw [ep]; exact nI_pos (by omega))) | exact Or.inr (fun ⟨p, q, ep, eq, hpq⟩ => absurd c68 (by rw [ep]; exact nI_pos (by omega))) | exact Or.inl (fun ⟨p, q, ep, eq, hpq⟩ => sh_no (by omega) ep eq hpq c81) | exact Or.inr (fun ⟨p, q, ep, eq, hpq⟩ => sh_no (by omega) ep eq hpq (i32_lt c95)))
              have h9 := K I L (by rw [e9]; exact hw) (fun _ _ _ => rfl) (fun _ _ _ => rfl)
              rw [e9] at h9
              exact h9
            · skip
              refine x_iload_n (pc := 62) dX10_shift_62 rfl rfl ?_
              refine x_if_lt (pc := 63) (tgt := 98) dX10_shift_63 (by decide) (fun c63 => ?_) (fun c63 => ?_)
              · skip
                refine x_bipush (pc := 98) (v := -13) dX10_shift_98 (by decide) ?_
                refine x_ireturn (pc := 100) dX10_shift_100 ⟨_, rfl, rfl⟩ ⟨Nat.le_refl _, Nat.le_refl _⟩ ?_
                have e9 : spShift W (nI s) (z) (nI g) (u) (v) = (-13, W) := spSh_p hs hg (fun q => c24 ((tok_neg ks).mpr q)) (fun q => absurd ((tok_neg kg).mpr q) (i32_nlt c33)) c51 (by first | exact Or.inl (fun ⟨p, q, ep, eq, hpq⟩ => absurd c59 (by rw [eq]; exact nI_pos (by omega))) | exact Or.inl (fun ⟨p, q, ep, eq, hpq⟩ => absurd c63 (by rw [ep]; exact nI_pos (by omega))) | exact Or.inr (fun ⟨p, q, ep, eq, hpq⟩ => absurd c68 (by rw [ep]; exact nI_pos (by omega))) | exact Or.inl (fun ⟨p, q, ep, eq, hpq⟩ => sh_no (by omega) ep eq hpq c81) | exact Or.inr (fun ⟨p, q, ep, eq, hpq⟩ => sh_no (by omega) ep eq hpq (i32_lt c95)))
                have h9 := K I L (by rw [e9]; exact hw) (fun _ _ _ => rfl) (fun _ _ _ => rfl)
                rw [e9] at h9
                exact h9
              · skip
                refine x_iload (pc := 66) dX10_shift_66 rfl ?_
                refine x_if_lt (pc := 68) (tgt := 98) dX10_shift_68 (by decide) (fun c68 => ?_) (fun c68 => ?_)
                · skip
                  refine x_bipush (pc := 98) (v := -13) dX10_shift_98 (by decide) ?_
                  refine x_ireturn (pc := 100) dX10_shift_100 ⟨_, rfl, rfl⟩ ⟨Nat.le_refl _, Nat.le_refl _⟩ ?_
                  have e9 : spShift W (nI s) (z) (nI g) (u) (v) = (-13, W) := spSh_p hs hg (fun q => c24 ((tok_neg ks).mpr q)) (fun q => absurd ((tok_neg kg).mpr q) (i32_nlt c33)) c51 (by first | exact Or.inl (fun ⟨p, q, ep, eq, hpq⟩ => absurd c59 (by rw [eq]; exact nI_pos (by omega))) | exact Or.inl (fun ⟨p, q, ep, eq, hpq⟩ => absurd c63 (by rw [ep]; exact nI_pos (by omega))) | exact Or.inr (fun ⟨p, q, ep, eq, hpq⟩ => absurd c68 (by rw [ep]; exact nI_pos (by omega))) | exact Or.inl (fun ⟨p, q, ep, eq, hpq⟩ => sh_no (by omega) ep eq hpq c81) | exact Or.inr (fun ⟨p, q, ep, eq, hpq⟩ => sh_no (by omega) ep eq hpq (i32_lt c95)))
                  have h9 := K I L (by rw [e9]; exact hw) (fun _ _ _ => rfl) (fun _ _ _ => rfl)
                  rw [e9] at h9
                  exact h9
                · skip
                  refine x_iload_n (pc := 71) dX10_shift_71 rfl rfl ?_
                  refine x_aload_n (pc := 72) dX10_shift_72 rfl rfl ?_
                  refine x_getr (pc := 73) dX10_shift_73 kf_RX10_214 hM.s rfl hM.f36 ?_
                  refine x_iload_n (pc := 76) dX10_shift_76 rfl rfl ?_
                  refine x_ialdn (pc := 77) (a := s) dX10_shift_77 hM.s36 (by omega) (by omega) ?_
                  rw [ws2]
                  refine x_iload (pc := 78) dX10_shift_78 rfl ?_
                  refine x_isub (pc := 80) dX10_shift_80 ?_
                  refine x_icmp_gt (pc := 81) (tgt := 98) dX10_shift_81 (by decide) (fun c81 => ?_) (fun c81 => ?_)
                  · skip
                    refine x_bipush (pc := 98) (v := -13) dX10_shift_98 (by decide) ?_
                    refine x_ireturn (pc := 100) dX10_shift_100 ⟨_, rfl, rfl⟩ ⟨Nat.le_refl _, Nat.le_refl _⟩ ?_
                    have e9 : spShift W (nI s) (z) (nI g) (u) (v) = (-13, W) := spSh_p hs hg (fun q => c24 ((tok_neg ks).mpr q)) (fun q => absurd ((tok_neg kg).mpr q) (i32_nlt c33)) c51 (by first | exact Or.inl (fun ⟨p, q, ep, eq, hpq⟩ => absurd c59 (by rw [eq]; exact nI_pos (by omega))) | exact Or.inl (fun ⟨p, q, ep, eq, hpq⟩ => absurd c63 (by rw [ep]; exact nI_pos (by omega))) | exact Or.inr (fun ⟨p, q, ep, eq, hpq⟩ => absurd c68 (by rw [ep]; exact nI_pos (by omega))) | exact Or.inl (fun ⟨p, q, ep, eq, hpq⟩ => sh_no (by omega) ep eq hpq c81) | exact Or.inr (fun ⟨p, q, ep, eq, hpq⟩ => sh_no (by omega) ep eq hpq (i32_lt c95)))
                    have h9 := K I L (by rw [e9]; exact hw) (fun _ _ _ => rfl) (fun _ _ _ => rfl)
                    rw [e9] at h9
                    exact h9
                  · skip
                    refine x_iload (pc := 84) dX10_shift_84 rfl ?_
                    refine x_aload_n (pc := 86) dX10_shift_86 rfl rfl ?_
                    refine x_getr (pc := 87) dX10_shift_87 kf_RX10_214 hM.s rfl hM.f36 ?_
                    refine x_iload_n (pc := 90) dX10_shift_90 rfl rfl ?_
                    refine x_ialdn (pc := 91) (a := g) dX10_shift_91 hM.s36 (by omega) (by omega) ?_
                    rw [wg2]
                    refine x_iload (pc := 92) dX10_shift_92 rfl ?_
                    refine x_isub (pc := 94) dX10_shift_94 ?_
                    refine x_icmp_le (pc := 95) (tgt := 101) dX10_shift_95 (by decide) (fun c95 => ?_) (fun c95 => ?_)
                    · skip
                      refine x_iconst (pc := 101) (v := 0) dX10_shift_101 (by decide) ?_
                      refine x_istore (pc := 102) (lv' := [(0, .ref M), (1, .int (nI s)), (2, .int z), (3, .int (nI g)), (4, .int u), (5, .int v), (6, .int 0)]) dX10_shift_102 (by decide) rfl ?_
                      obtain ⟨a, ha9, ea⟩ := nI_of c63
                      obtain ⟨b, hb9, eb⟩ := nI_of c68
                      obtain ⟨m, hm9, em⟩ := nI_of c59
                      subst ea eb em
                      have ha := sh_yes os1 ha9 hm9 (Int32.not_lt.mp c81)
                      have hb := sh_yes og1 hb9 hm9 c95
                      refine lm_shift1 hM hs hg (by omega) (by omega) (fun Q q1 q2 => ?_) m 0 (by omega) L (fun j hj => absurd hj (by omega)) (fun _ _ => rfl)
                      exact lm_shift3 hM hw ho hs hg (fun q => c24 ((tok_neg ks).mpr q)) (fun q => absurd ((tok_neg kg).mpr q) (i32_nlt c33)) c51 ha hb q1 q2 K
                    · skip
                      refine x_bipush (pc := 98) (v := -13) dX10_shift_98 (by decide) ?_
                      refine x_ireturn (pc := 100) dX10_shift_100 ⟨_, rfl, rfl⟩ ⟨Nat.le_refl _, Nat.le_refl _⟩ ?_
                      have e9 : spShift W (nI s) (z) (nI g) (u) (v) = (-13, W) := spSh_p hs hg (fun q => c24 ((tok_neg ks).mpr q)) (fun q => absurd ((tok_neg kg).mpr q) (i32_nlt c33)) c51 (by first | exact Or.inl (fun ⟨p, q, ep, eq, hpq⟩ => absurd c59 (by rw [eq]; exact nI_pos (by omega))) | exact Or.inl (fun ⟨p, q, ep, eq, hpq⟩ => absurd c63 (by rw [ep]; exact nI_pos (by omega))) | exact Or.inr (fun ⟨p, q, ep, eq, hpq⟩ => absurd c68 (by rw [ep]; exact nI_pos (by omega))) | exact Or.inl (fun ⟨p, q, ep, eq, hpq⟩ => sh_no (by omega) ep eq hpq c81) | exact Or.inr (fun ⟨p, q, ep, eq, hpq⟩ => sh_no (by omega) ep eq hpq (i32_lt c95)))
                      have h9 := K I L (by rw [e9]; exact hw) (fun _ _ _ => rfl) (fun _ _ _ => rfl)
                      rw [e9] at h9
                      exact h9
          · skip
            refine x_bipush (pc := 54) (v := -12) dX10_shift_54 (by decide) ?_
            refine x_ireturn (pc := 56) dX10_shift_56 ⟨_, rfl, rfl⟩ ⟨Nat.le_refl _, Nat.le_refl _⟩ ?_
            have e9 : spShift W (nI s) (z) (nI g) (u) (v) = (-12, W) := spSh_c hs hg (fun q => c24 ((tok_neg ks).mpr q)) (fun q => absurd ((tok_neg kg).mpr q) (i32_nlt c33)) c51
            have h9 := K I L (by rw [e9]; exact hw) (fun _ _ _ => rfl) (fun _ _ _ => rfl)
            rw [e9] at h9
            exact h9
        · skip
          refine x_bipush (pc := 36) (v := -11) dX10_shift_36 (by decide) ?_
          refine x_ireturn (pc := 38) dX10_shift_38 ⟨_, rfl, rfl⟩ ⟨Nat.le_refl _, Nat.le_refl _⟩ ?_
          have e9 : spShift W (nI s) (z) (nI g) (u) (v) = (-11, W) := spSh_e hs hg (by first | exact Or.inl ((tok_neg ks).mp c24) | exact Or.inr ((tok_neg kg).mp (i32_lt c33)))
          have h9 := K I L (by rw [e9]; exact hw) (fun _ _ _ => rfl) (fun _ _ _ => rfl)
          rw [e9] at h9
          exact h9
    · skip
      refine x_if_ne_f (pc := 13) (tgt := 18) dX10_shift_13 (by decide) (by decide) ?_
      refine x_iconst (pc := 16) (v := -1) dX10_shift_16 (by decide) ?_
      refine x_ireturn (pc := 17) dX10_shift_17 ⟨_, rfl, rfl⟩ ⟨Nat.le_refl _, Nat.le_refl _⟩ ?_
      have e9 : spShift W (nI s) (z) (y) (u) (v) = (-1, W) := by first | exact spSh_1 h1 | exact spSh_2 h2
      have h9 := K I L (by rw [e9]; exact hw) (fun _ _ _ => rfl) (fun _ _ _ => rfl)
      rw [e9] at h9
      exact h9
  · skip
    refine x_if_eq_t (pc := 5) (tgt := 16) dX10_shift_5 (by decide) (by decide) ?_
    refine x_iconst (pc := 16) (v := -1) dX10_shift_16 (by decide) ?_
    refine x_ireturn (pc := 17) dX10_shift_17 ⟨_, rfl, rfl⟩ ⟨Nat.le_refl _, Nat.le_refl _⟩ ?_
    have e9 : spShift W (x) (z) (y) (u) (v) = (-1, W) := by first | exact spSh_1 h1 | exact spSh_2 h2
    have h9 := K I L (by rw [e9]; exact hw) (fun _ _ _ => rfl) (fun _ _ _ => rfl)
    rw [e9] at h9
    exact h9

set_option maxHeartbeats 4000000 in
set_option maxRecDepth 100000 in
theorem lm_judge1 {T : xT} {n : Nat} {sh : Nat → Nat × Nat} {I : xI} {R : xR} {L : xL} {P : xPost} {M : Nat} (hM : xModel sh R M) {V : xV} {B : Nat} {ars : Nat → xAR} (hv : VOK V B) (hB : B < 800000) {t m : Nat} {y : Int32} (hm : m ≤ 60) (ht : t < 6) (K : ∀ J : xI, MS sh R J M (V 8 0) (V 0) (V 1) (goF V (rgVal ars V) (V 8 1) m) (V 3) (V 4) (V 8 1) (V 8 2 + m) 0 (rgVal ars V) → mdT M I J → X T zX10_judge 6 0 0 P 62 [(0, .ref M), (1, .int (nI t)), (2, .int y), (3, .int (nI m)), (4, .int 0)] [] (n, sh, 0, 0) J R L)  : ∀ (w i : Nat), i + w = m → ∀ (J : xI), MS sh R J M (V 8 0) (V 0) (V 1) (goF V (rgVal ars V) (V 8 1) i) (V 3) (V 4) (V 8 1) (V 8 2 + i) 0 (rgVal ars V) → mdT M I J → X T zX10_judge 6 0 0 P 43 [(0, .ref M), (1, .int (nI t)), (2, .int y), (3, .int (nI m)), (4, .int (nI i))] [] (n, sh, 0, 0) (J) R L := by
  obtain ⟨v6, v12, v10, vb, vf, vw, vm, vta, vte, vod, vrg, vdi⟩ := id hv
  intro w
  induction w with
  | zero =>
    intro i hw J hj fj
    have hz : i = m := by omega
    refine x_iload (pc := 43) dX10_judge_43 rfl ?_
    refine x_iload_n (pc := 45) dX10_judge_45 rfl rfl ?_
    refine x_icmpn_ge_t (pc := 46) (tgt := 59) (a := i) (b := m) dX10_judge_46 (by decide) (by omega) (by omega) (by omega) ?_
    refine x_iconst (pc := 59) (v := 0) dX10_judge_59 (by decide) ?_
    refine x_istore (pc := 60) (lv' := [(0, .ref M), (1, .int (nI t)), (2, .int y), (3, .int (nI m)), (4, .int 0)]) dX10_judge_60 (by decide) rfl ?_
    rw [hz] at hj
    exact K J hj fj
  | succ w ih =>
    intro i hw J hj fj
    have hi : i < m := by omega
    refine x_iload (pc := 43) dX10_judge_43 rfl ?_
    refine x_iload_n (pc := 45) dX10_judge_45 rfl rfl ?_
    refine x_icmpn_ge_f (pc := 46) (tgt := 59) (a := i) (b := m) dX10_judge_46 (by decide) (by omega) (by omega) (by omega) ?_
    refine x_aload_n (pc := 49) dX10_judge_49 rfl rfl ?_
    refine x_callV (pc := 50) (As := []) dX10_judge_50 km_X10_goTenth kv_X10_goTenth kl_RX10_344 hM.s rfl rfl (by decide) ⟨Nat.le_refl _, Nat.le_refl _⟩ rfl (Nat.le_of_ble_eq_true rfl) (Nat.le_of_ble_eq_true rfl) (m_goTenth hj (by omega) (fun I2 h3 f2 => ⟨rfl, rfl, ?_⟩))
    have h3 := (show MS sh R I2 M (V 8 0) (V 0) (V 1) (goF V (rgVal ars V) (V 8 1) (i + 1)) (V 3) (V 4) (V 8 1) (V 8 2 + (i + 1)) 0 (rgVal ars V) from h3)
    refine x_iinc (pc := 53) (v := nI (i + 1)) (lv' := [(0, .ref M), (1, .int (nI t)), (2, .int y), (3, .int (nI m)), (4, .int (nI (i + 1)))]) dX10_judge_53 rfl (nI_1 _) (by decide) rfl ?_
    refine x_goto (pc := 56) (tgt := 43) dX10_judge_56 (by decide) ?_
    exact ih (i + 1) (by omega) I2 h3 (fj.tr (mdT.of2 f2))

theorem jsub {le i : Nat} (h : le ≤ 60) (hi : i < 6) : (nI le - nI i - 1).toInt = (le : Int) - i - 1 := by
  rw [Int32.toInt_sub, sub_toI (by omega) (by omega)]
  have e1 : (1 : Int32).toInt = 1 := rfl
  rw [e1]
  exact Int.bmod_eq_of_le (by omega) (by omega)
theorem jz {z : Int32 × Nat × (Nat → Int64)} {i : Int32} {b : Nat} (h : z.2.1 = 0) : jpl z i b = none := by
  unfold jpl
  split
  · rfl
  · rw [h]
    exact if_neg (by omega)

set_option maxHeartbeats 4000000 in
set_option maxRecDepth 100000 in
theorem lm_judge2 {T : xT} {n : Nat} {sh : Nat → Nat × Nat} {I : xI} {R : xR} {L : xL} {P : xPost} {M : Nat} (hM : xModel sh R M) {V : xV} {B : Nat} {ars : Nat → xAR} (hv : VOK V B) {t m : Nat} {y : Int32} (hm : m ≤ 60) (ht : t < 6) {z : Int32 × Nat × (Nat → Int64)} (ho1 : TOK1 z) (z1 : I (M + 36) t = z.1) (z2 : I (M + 37) t = nI z.2.1) (z3 : ∀ i, i < z.2.1 → L (M + 38) (60 * t + i) = z.2.2 i) (hj : MS sh R I M (V 8 0) (V 0) (V 1) (goF V (rgVal ars V) (V 8 1) m) (V 3) (V 4) (V 8 1) (V 8 2 + m) 0 (rgVal ars V)) (K : P (n, sh, 0, 0) I R L (some (.int (jdW z y (goF V (rgVal ars V) (V 8 1) m) (V 8 0) 0))))  : ∀ (w i : Nat), i + w = V 8 0 → (jdW z y (goF V (rgVal ars V) (V 8 1) m) (V 8 0) 0 = jdW z y (goF V (rgVal ars V) (V 8 1) m) w i) → X T zX10_judge 6 0 0 P 62 [(0, .ref M), (1, .int (nI t)), (2, .int y), (3, .int (nI m)), (4, .int (nI i))] [] (n, sh, 0, 0) (I) R L := by
  obtain ⟨v6, v12, v10, vb, vf, vw, vm, vta, vte, vod, vrg, vdi⟩ := id hv
  have z60 := ho1.1
  intro w
  induction w with
  | zero =>
    intro i hw inv
    have hz : i = V 8 0 := by omega
    refine x_iload (pc := 62) dX10_judge_62 rfl ?_
    refine x_aload_n (pc := 64) dX10_judge_64 rfl rfl ?_
    refine x_get (pc := 65) dX10_judge_65 kf_RX10_7 hM.s rfl ?_
    rw [hj.2.2.1]
    refine x_icmpn_ge_t (pc := 68) (tgt := 140) (a := i) (b := (V 8 0)) dX10_judge_68 (by decide) (by omega) (by omega) (by omega) ?_
    refine x_bipush (pc := 140) (v := -5) dX10_judge_140 (by decide) ?_
    refine x_ireturn (pc := 142) dX10_judge_142 ⟨_, rfl, rfl⟩ ⟨Nat.le_refl _, Nat.le_refl _⟩ ?_
    rw [inv] at K
    exact K
  | succ w ih =>
    intro i hw inv
    have hi : i < V 8 0 := by omega
    refine x_iload (pc := 62) dX10_judge_62 rfl ?_
    refine x_aload_n (pc := 64) dX10_judge_64 rfl rfl ?_
    refine x_get (pc := 65) dX10_judge_65 kf_RX10_7 hM.s rfl ?_
    rw [hj.2.2.1]
    refine x_icmpn_ge_f (pc := 68) (tgt := 140) (a := i) (b := (V 8 0)) dX10_judge_68 (by decide) (by omega) (by omega) (by omega) ?_
    refine x_aload_n (pc := 71) dX10_judge_71 rfl rfl ?_
    refine x_getr (pc := 72) dX10_judge_72 kf_RX10_211 hM.s rfl hM.f35 ?_
    refine x_iload_n (pc := 75) dX10_judge_75 rfl rfl ?_
    refine x_ialdn (pc := 76) (a := t) dX10_judge_76 hM.s35 (by omega) (by omega) ?_
    rw [z1]
    refine x_if_lt (pc := 77) (tgt := 99) dX10_judge_77 (by decide) (fun c77 => ?_) (fun c77 => ?_)
    · skip
      refine x_bipush (pc := 99) (v := 100) dX10_judge_99 (by decide) ?_
      refine x_iload (pc := 101) dX10_judge_101 rfl ?_
      refine x_iaddn (pc := 103) (a := 100) (b := i) dX10_judge_103 ?_
      refine x_ireturn (pc := 104) dX10_judge_104 ⟨_, rfl, rfl⟩ ⟨Nat.le_refl _, Nat.le_refl _⟩ ?_
      first | rw [inv, jdW_n (jpl_neg c81)] at K | (rw [inv, jdW_n (jz (ho1.2.resolve_right (fun ⟨k9, hk9, ek9⟩ => absurd c77 (by rw [ek9]; exact nI_pos (by omega)))).2)] at K) | rw [inv, jdW_n (jpl_n hk (fun q => absurd (Int32.lt_iff_toInt_lt.mp (i32_lt c96)) (by rw [jsub (by omega) (by omega), nI_toInt hk]; omega)))] at K
      exact K
    · skip
      refine x_iload_n (pc := 80) dX10_judge_80 rfl rfl ?_
      refine x_if_lt (pc := 81) (tgt := 99) dX10_judge_81 (by decide) (fun c81 => ?_) (fun c81 => ?_)
      · skip
        refine x_bipush (pc := 99) (v := 100) dX10_judge_99 (by decide) ?_
        refine x_iload (pc := 101) dX10_judge_101 rfl ?_
        refine x_iaddn (pc := 103) (a := 100) (b := i) dX10_judge_103 ?_
        refine x_ireturn (pc := 104) dX10_judge_104 ⟨_, rfl, rfl⟩ ⟨Nat.le_refl _, Nat.le_refl _⟩ ?_
        first | rw [inv, jdW_n (jpl_neg c81)] at K | (rw [inv, jdW_n (jz (ho1.2.resolve_right (fun ⟨k9, hk9, ek9⟩ => absurd c77 (by rw [ek9]; exact nI_pos (by omega)))).2)] at K) | rw [inv, jdW_n (jpl_n hk (fun q => absurd (Int32.lt_iff_toInt_lt.mp (i32_lt c96)) (by rw [jsub (by omega) (by omega), nI_toInt hk]; omega)))] at K
        exact K
      · skip
        obtain ⟨k, hk, ek⟩ := nI_of c81
        subst ek
        refine x_iload_n (pc := 84) dX10_judge_84 rfl rfl ?_
        refine x_aload_n (pc := 85) dX10_judge_85 rfl rfl ?_
        refine x_getr (pc := 86) dX10_judge_86 kf_RX10_214 hM.s rfl hM.f36 ?_
        refine x_iload_n (pc := 89) dX10_judge_89 rfl rfl ?_
        refine x_ialdn (pc := 90) (a := t) dX10_judge_90 hM.s36 (by omega) (by omega) ?_
        rw [z2]
        refine x_iload (pc := 91) dX10_judge_91 rfl ?_
        refine x_isub (pc := 93) dX10_judge_93 ?_
        refine x_iconst (pc := 94) (v := 1) dX10_judge_94 (by decide) ?_
        refine x_isub (pc := 95) dX10_judge_95 ?_
        refine x_icmp_le (pc := 96) (tgt := 105) dX10_judge_96 (by decide) (fun c96 => ?_) (fun c96 => ?_)
        · skip
          have hlt : k + i < z.2.1 := by
            have q := Int32.le_iff_toInt_le.mp c96
            rw [jsub z60 (by omega), nI_toInt hk] at q
            omega
          refine x_aload_n (pc := 105) dX10_judge_105 rfl rfl ?_
          refine x_getr (pc := 106) dX10_judge_106 kf_RX10_217 hM.s rfl hM.f37 ?_
          refine x_bipush (pc := 109) (v := 60) dX10_judge_109 (by decide) ?_
          refine x_iload_n (pc := 111) dX10_judge_111 rfl rfl ?_
          refine x_imuln (pc := 112) (a := 60) (b := t) dX10_judge_112 ?_
          refine x_iload_n (pc := 113) dX10_judge_113 rfl rfl ?_
          refine x_iaddn (pc := 114) (a := (60 * t)) (b := k) dX10_judge_114 ?_
          refine x_iload (pc := 115) dX10_judge_115 rfl ?_
          refine x_iaddn (pc := 117) (a := ((60 * t) + k)) (b := i) dX10_judge_117 ?_
          refine x_laldn (pc := 118) (a := (((60 * t) + k) + i)) dX10_judge_118 hM.s37 (by omega) (by omega) ?_
          rw [Nat.add_assoc, z3 _ hlt]
          refine x_aload_n (pc := 119) dX10_judge_119 rfl rfl ?_
          refine x_getr (pc := 120) dX10_judge_120 kf_RX10_101 hM.s rfl hM.f15 ?_
          refine x_iload (pc := 123) dX10_judge_123 rfl ?_
          refine x_ialdn (pc := 125) (a := i) dX10_judge_125 hM.s15 (by omega) (by omega) ?_
          rw [hj.2.2.2.2.2.1 i hi]
          refine x_i2l (pc := 126) dX10_judge_126 ?_
          refine x_lcmp (pc := 127) dX10_judge_127 ?_
          refine x_if_eq (pc := 128) (tgt := 134) dX10_judge_128 (by decide) (fun c128 => ?_) (fun c128 => ?_)
          · skip
            refine x_iinc (pc := 134) (v := nI (i + 1)) (lv' := [(0, .ref M), (1, .int (nI t)), (2, .int (nI k)), (3, .int (nI m)), (4, .int (nI (i + 1)))]) dX10_judge_134 rfl (nI_1 _) (by decide) rfl ?_
            refine x_goto (pc := 137) (tgt := 62) dX10_judge_137 (by decide) ?_
            exact ih (i + 1) (by omega) (by rw [inv, jdW_e (jpl_s hk hlt) ((lg_cmp_eq _ _).mp c128)])
          · skip
            refine x_iload (pc := 131) dX10_judge_131 rfl ?_
            refine x_ireturn (pc := 133) dX10_judge_133 ⟨_, rfl, rfl⟩ ⟨Nat.le_refl _, Nat.le_refl _⟩ ?_
            rw [inv, jdW_u (jpl_s hk hlt) (fun q => c128 ((lg_cmp_eq _ _).mpr q))] at K
            exact K
        · skip
          refine x_bipush (pc := 99) (v := 100) dX10_judge_99 (by decide) ?_
          refine x_iload (pc := 101) dX10_judge_101 rfl ?_
          refine x_iaddn (pc := 103) (a := 100) (b := i) dX10_judge_103 ?_
          refine x_ireturn (pc := 104) dX10_judge_104 ⟨_, rfl, rfl⟩ ⟨Nat.le_refl _, Nat.le_refl _⟩ ?_
          first | rw [inv, jdW_n (jpl_neg c81)] at K | (rw [inv, jdW_n (jz (ho1.2.resolve_right (fun ⟨k9, hk9, ek9⟩ => absurd c77 (by rw [ek9]; exact nI_pos (by omega)))).2)] at K) | rw [inv, jdW_n (jpl_n hk (fun q => absurd (Int32.lt_iff_toInt_lt.mp (i32_lt c96)) (by rw [jsub (by omega) (by omega), nI_toInt hk]; omega)))] at K
          exact K

set_option maxHeartbeats 4000000 in
set_option maxRecDepth 100000 in
theorem m_judgeIt {T : xT} {n : Nat} {sh : Nat → Nat × Nat} {I : xI} {R : xR} {L : xL} {P : xPost} {M : Nat} (hM : xModel sh R M) {V : xV} {B rc : Nat} {ars : Nat → xAR} (h : MDV I M V) (hv : VOK V B) (hB : B < 800000) (hr : mRings I M rc ars) (hV6 : V 8 6 ≤ rc) {W : xW} (hw : TPM I L M W) (ho : TOK W) {x y w : Int32} (K : ∀ I2 : xI, MDV I2 M V → mdP M I I2 → P (n, sh, 0, 0) I2 R L (some (.int (spJudge V (rgVal ars V) W x y w))))  : XM T zX10_judge 6 [.ref M, .int x, .int y, .int w] n sh I R L P := by
  obtain ⟨v6, v12, v10, vb, vf, vw, vm, vta, vte, vod, vrg, vdi⟩ := id hv
  refine x_aload_n (pc := 0) dX10_judge_0 rfl rfl ?_
  refine x_iload_n (pc := 1) dX10_judge_1 rfl rfl ?_
  refine x_callV (pc := 2) (As := [.int _]) dX10_judge_2 km_X10_isTape kv_X10_isTape kl_RX10_382 hM.s rfl rfl (by decide) ⟨Nat.le_refl _, Nat.le_refl _⟩ rfl (Nat.le_of_ble_eq_true rfl) (Nat.le_of_ble_eq_true rfl) (m_isTape hM (fun t ht et => ⟨rfl, rfl, ?_⟩) (fun h1 => ⟨rfl, rfl, ?_⟩))
  · skip
    subst et
    obtain ⟨wt1, wt2, wt3⟩ := hw t ht
    have kt := ho t ht
    have ot1 := kt.1
    refine x_if_ne_t (pc := 5) (tgt := 10) dX10_judge_5 (by decide) (by decide) ?_
    refine x_aload_n (pc := 10) dX10_judge_10 rfl rfl ?_
    refine x_iload_n (pc := 11) dX10_judge_11 rfl rfl ?_
    refine x_iconst (pc := 12) (v := 0) dX10_judge_12 (by decide) ?_
    refine x_bipush (pc := 13) (v := 60) dX10_judge_13 (by decide) ?_
    refine x_callV (pc := 15) (As := [.int _, .int _, .int _]) dX10_judge_15 km_X10_in kv_X10_in kl_RX10_231 hM.s rfl rfl (by decide) ⟨Nat.le_refl _, Nat.le_refl _⟩ rfl (Nat.le_of_ble_eq_true rfl) (Nat.le_of_ble_eq_true rfl) (m_in hM.s (fun p1 p2 => ⟨rfl, rfl, ?_⟩) (fun g1 => ⟨rfl, rfl, ?_⟩))
    · skip
      obtain ⟨m, hm, em⟩ := i60_k p1 p2
      subst em
      refine x_if_ne_t (pc := 18) (tgt := 24) dX10_judge_18 (by decide) (by decide) ?_
      refine x_aload_n (pc := 24) dX10_judge_24 rfl rfl ?_
      refine x_getr (pc := 25) dX10_judge_25 kf_RX10_211 hM.s rfl hM.f35 ?_
      refine x_iload_n (pc := 28) dX10_judge_28 rfl rfl ?_
      refine x_ialdn (pc := 29) (a := t) dX10_judge_29 hM.s35 (by omega) (by omega) ?_
      rw [wt1]
      refine x_if_le (pc := 30) (tgt := 36) dX10_judge_30 (by decide) (fun c30 => ?_) (fun c30 => ?_)
      · skip
        refine x_aload_n (pc := 36) dX10_judge_36 rfl rfl ?_
        refine x_callV (pc := 37) (As := []) dX10_judge_37 km_X10_asIs kv_X10_asIs kl_RX10_338 hM.s rfl rfl (by decide) ⟨Nat.le_refl _, Nat.le_refl _⟩ rfl (Nat.le_of_ble_eq_true rfl) (Nat.le_of_ble_eq_true rfl) (m_asIs hM (fun I2 k1 k2 k3 k4 k5 k6 k7 => ⟨rfl, rfl, ?_⟩))
        have hms := h.toMS hM hv hB hr hV6 k1 k2 k3 k4 k5 k6 k7
        refine x_iconst (pc := 40) (v := 0) dX10_judge_40 (by decide) ?_
        refine x_istore (pc := 41) (lv' := [(0, .ref M), (1, .int (nI t)), (2, .int y), (3, .int (nI m)), (4, .int 0)]) dX10_judge_41 (by decide) rfl ?_
        have hzz := (tok_pos kt).mp c30
        refine lm_judge1 hM hv hB hm ht (fun J hj fj => ?_) m 0 (by omega) I2 hms mdT.rf
        have fa := (mdT.asIs k1 k2).tr fj
        have h9 := K J (h.keepT fa) fa.mdP
        rw [spJ_s ht hm hzz] at h9
        exact lm_judge2 hM hv hm ht kt ((congrFun (fa.1 _ (by omega) (by omega) (by omega) (by omega)) t).trans wt1) ((congrFun (fa.1 _ (by omega) (by omega) (by omega) (by omega)) t).trans wt2) wt3 hj h9 (V 8 0) 0 (by omega) rfl
      · skip
        refine x_bipush (pc := 33) (v := -12) dX10_judge_33 (by decide) ?_
        refine x_ireturn (pc := 35) dX10_judge_35 ⟨_, rfl, rfl⟩ ⟨Nat.le_refl _, Nat.le_refl _⟩ ?_
        have e9 := (show spJudge V (rgVal ars V) W (nI t) (y) (nI m) = (-12) from spJ_c ht hm (fun q => c30 ((tok_pos kt).mpr (Or.inl q))) (fun q => c30 ((tok_pos kt).mpr (Or.inr q))))
        have h9 := K I h mdP.rf
        rw [e9] at h9
        exact h9
    · skip
      refine x_if_ne_f (pc := 18) (tgt := 24) dX10_judge_18 (by decide) (by decide) ?_
      refine x_bipush (pc := 21) (v := -2) dX10_judge_21 (by decide) ?_
      refine x_ireturn (pc := 23) dX10_judge_23 ⟨_, rfl, rfl⟩ ⟨Nat.le_refl _, Nat.le_refl _⟩ ?_
      have e9 := (show spJudge V (rgVal ars V) W (nI t) (y) (w) = (-2) from spJ_b ht g1)
      have h9 := K I h mdP.rf
      rw [e9] at h9
      exact h9
  · skip
    refine x_if_ne_f (pc := 5) (tgt := 10) dX10_judge_5 (by decide) (by decide) ?_
    refine x_iconst (pc := 8) (v := -1) dX10_judge_8 (by decide) ?_
    refine x_ireturn (pc := 9) dX10_judge_9 ⟨_, rfl, rfl⟩ ⟨Nat.le_refl _, Nat.le_refl _⟩ ?_
    have e9 := (show spJudge V (rgVal ars V) W (x) (y) (w) = (-1) from spJ_n h1)
    have h9 := K I h mdP.rf
    rw [e9] at h9
    exact h9

