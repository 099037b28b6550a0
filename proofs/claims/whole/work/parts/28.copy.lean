/-! ===== copying rows and scenes ===== -/
def xcopy (I : xI) (r q q2 m : Nat) : xI := fun a k => if a = r ∧ k = 1 then nI m else if a = q ∧ k < m then I q2 k else I a k
theorem xcopy_0 {I : xI} {r q q2 : Nat} : up2 I r 1 0 = xcopy I r q q2 0 := by
  funext a k
  unfold up2 xcopy
  by_cases h : a = r ∧ k = 1
  · rw [if_pos h, if_pos h]; rfl
  · rw [if_neg h, if_neg h, if_neg (by omega)]
theorem xcopy_s {I : xI} {r q q2 m : Nat} (hqr : q ≠ r) : up2 (up2 (xcopy I r q q2 m) q m (I q2 m)) r 1 (nI (m + 1)) = xcopy I r q q2 (m + 1) := by
  funext a k
  unfold up2 xcopy
  by_cases h : a = r ∧ k = 1
  · rw [if_pos h, if_pos h]
  · rw [if_neg h, if_neg h, if_neg h]
    by_cases h2 : a = q ∧ k = m
    · rw [if_pos h2, if_pos (by omega), h2.2]
    · rw [if_neg h2]
      by_cases h3 : a = q ∧ k < m
      · rw [if_pos h3, if_pos (by omega)]
      · rw [if_neg h3, if_neg (by omega)]
theorem xcopy_o {I : xI} {r q q2 m a : Nat} (h1 : a ≠ r) (h2 : a ≠ q) : xcopy I r q q2 m a = I a := by
  funext k
  unfold xcopy
  rw [if_neg (fun h => h1 h.1), if_neg (fun h => h2 h.1)]
theorem xcopy_1 {I : xI} {r q q2 m : Nat} : xcopy I r q q2 m r 1 = nI m := if_pos ⟨rfl, rfl⟩
theorem xcopy_i {I : xI} {r q q2 m i : Nat} (hqr : q ≠ r) (hi : i < m) : xcopy I r q q2 m q i = I q2 i := by
  unfold xcopy
  rw [if_neg (fun h => hqr h.1), if_pos ⟨rfl, hi⟩]
set_option maxHeartbeats 4000000 in
set_option maxRecDepth 100000 in
theorem l_copyFrom {T : xT} {n : Nat} {sh : Nat → Nat × Nat} {I : xI} {R : xR} {L : xL} {P : xPost} {r q len r2 q2 len2 m : Nat} (hv : xRow sh R r q len) (hv2 : xRow sh R r2 q2 len2) (hrr : r2 ≠ r) (hqq : q2 ≠ q) (hm : I r2 1 = nI m) (hml : m ≤ len) (hml2 : m ≤ len2) (K : P (n, sh, 0, 0) (xcopy I r q q2 m) R L none) : ∀ (w i : Nat), i + w = m → X T zX5_copyFrom 1 0 0 P 6 [(0, .ref r), (1, .ref r2), (2, .int (nI i))] [] (n, sh, 0, 0) (xcopy I r q q2 i) R L := by
  have hqr : q ≠ r := fun e => by have := hv.1; rw [← e, hv.2.2.1] at this; cases this
  have hr2q : r2 ≠ q := fun e => by have := hv2.1; rw [e, hv.2.2.1] at this; cases this
  have hq2r : q2 ≠ r := fun e => by have := hv.1; rw [← e, hv2.2.2.1] at this; cases this
  have hl9 := hv.2.2.2
  have e1 : ∀ i, xcopy I r q q2 i r2 = I r2 := fun i => xcopy_o hrr hr2q
  have e2 : ∀ i, xcopy I r q q2 i q2 = I q2 := fun i => xcopy_o hq2r hqq
  intro w
  induction w with
  | zero =>
    intro i hw
    have hz : i = m := by omega
    refine x_iload_n (pc := 6) dX5_copyFrom_6 rfl rfl ?_
    refine x_aload_n (pc := 7) dX5_copyFrom_7 rfl rfl ?_
    refine x_get (pc := 8) dX5_copyFrom_8 kf_RX5_9 hv2.1 rfl ?_
    rw [e1, hm]
    refine x_icmpn_ge_t (pc := 11) (tgt := 29) (a := i) (b := m) dX5_copyFrom_11 (by decide) (by omega) (by omega) (by omega) ?_
    refine x_return (pc := 29) dX5_copyFrom_29 rfl ⟨Nat.le_refl _, Nat.le_refl _⟩ ?_
    rw [hz]
    exact K
  | succ w ih =>
    intro i hw
    have hi : i < m := by omega
    refine x_iload_n (pc := 6) dX5_copyFrom_6 rfl rfl ?_
    refine x_aload_n (pc := 7) dX5_copyFrom_7 rfl rfl ?_
    refine x_get (pc := 8) dX5_copyFrom_8 kf_RX5_9 hv2.1 rfl ?_
    rw [e1, hm]
    refine x_icmpn_ge_f (pc := 11) (tgt := 29) (a := i) (b := m) dX5_copyFrom_11 (by decide) (by omega) (by omega) (by omega) ?_
    refine x_aload_n (pc := 14) dX5_copyFrom_14 rfl rfl ?_
    refine x_aload_n (pc := 15) dX5_copyFrom_15 rfl rfl ?_
    refine x_iload_n (pc := 16) dX5_copyFrom_16 rfl rfl ?_
    refine x_callV (pc := 17) (As := [.int _]) dX5_copyFrom_17 km_X5_at kv_X5_at kl_RX5_28 hv2.1 rfl rfl (by decide) ⟨Nat.le_refl _, Nat.le_refl _⟩ rfl (Nat.le_of_ble_eq_true rfl) (Nat.le_of_ble_eq_true rfl) (c_at hv2 (⟨rfl, rfl, ?_⟩))
    rw [e1, e2, hm, rAt_in hi hml2 (by have := hv2.2.2.2; omega)]
    refine x_callV (pc := 20) (As := [.int _]) dX5_copyFrom_20 km_X5_add kv_X5_add kl_RX5_32 hv.1 rfl rfl (by decide) ⟨Nat.le_refl _, Nat.le_refl _⟩ rfl (Nat.le_of_ble_eq_true rfl) (Nat.le_of_ble_eq_true rfl) (c_add hv (m := i) xcopy_1 (by omega) (⟨rfl, rfl, ?_⟩))
    refine x_iinc (pc := 23) (v := nI (i + 1)) (lv' := [(0, .ref r), (1, .ref r2), (2, .int (nI (i + 1)))]) dX5_copyFrom_23 rfl (nI_1 _) (by decide) rfl ?_
    refine x_goto (pc := 26) (tgt := 6) dX5_copyFrom_26 (by decide) ?_
    rw [xcopy_s hqr]
    exact ih (i + 1) (by omega)

set_option maxHeartbeats 4000000 in
set_option maxRecDepth 100000 in
theorem c_copyFrom {T : xT} {n : Nat} {sh : Nat → Nat × Nat} {I : xI} {R : xR} {L : xL} {P : xPost} {r q len r2 q2 len2 m : Nat} (hv : xRow sh R r q len) (hv2 : xRow sh R r2 q2 len2) (hrr : r2 ≠ r) (hqq : q2 ≠ q) (hm : I r2 1 = nI m) (hml : m ≤ len) (hml2 : m ≤ len2) (K : P (n, sh, 0, 0) (xcopy I r q q2 m) R L none) : XM T zX5_copyFrom 1 [.ref r, .ref r2] n sh I R L P := by
  refine x_aload_n (pc := 0) dX5_copyFrom_0 rfl rfl ?_
  refine x_callV (pc := 1) (As := []) dX5_copyFrom_1 km_X5_clear kv_X5_clear kl_RX5_25 hv.1 rfl rfl (by decide) ⟨Nat.le_refl _, Nat.le_refl _⟩ rfl (Nat.le_of_ble_eq_true rfl) (Nat.le_of_ble_eq_true rfl) (c_clear hv (⟨rfl, rfl, ?_⟩))
  refine x_iconst (pc := 4) (v := 0) dX5_copyFrom_4 (by decide) ?_
  refine x_istore_n (pc := 5) (lv' := [(0, .ref r), (1, .ref r2), (2, .int 0)]) dX5_copyFrom_5 rfl (by decide) rfl ?_
  rw [xcopy_0 (q := q) (q2 := q2)]
  exact l_copyFrom hv hv2 hrr hqq hm hml hml2 K m 0 (by omega)

def scInv (I : xI) (d b : Nat) (ms : Nat → Nat) (k : Nat) (J : xI) : Prop := (∀ a, (a < d ∨ d + 17 ≤ a) → J a = I a) ∧ J d = I d ∧ ∀ t, t < k → J (d + 1 + 2 * t) 1 = nI (ms t) ∧ ∀ i, i < ms t → J (d + 2 + 2 * t) i = I (b + 2 + 2 * t) i
theorem scInv_step {I J : xI} {d b k r q q2 m : Nat} {ms : Nat → Nat} (h : scInv I d b ms k J) (hdb : d + 17 < b ∨ b + 17 < d) (hk : k < 8) (hr : r = d + 1 + 2 * k) (hq : q = d + 2 + 2 * k) (hq2 : q2 = b + 2 + 2 * k) (hm : m = ms k) : scInv I d b ms (k + 1) (xcopy J r q q2 m) := by
  subst hr hq hq2 hm
  obtain ⟨h1, h2, h3⟩ := h
  refine ⟨fun a ha => ?_, ?_, fun t ht => ?_⟩
  · rw [xcopy_o (by omega) (by omega)]
    exact h1 a ha
  · rw [xcopy_o (by omega) (by omega)]
    exact h2
  · rcases Nat.lt_succ_iff_lt_or_eq.mp ht with q | q
    · rw [xcopy_o (a := d + 1 + 2 * t) (by omega) (by omega), xcopy_o (a := d + 2 + 2 * t) (by omega) (by omega)]
      exact h3 t q
    · subst q
      refine ⟨xcopy_1, fun i hi => ?_⟩
      rw [xcopy_i (by omega) hi, h1 _ (by omega)]
set_option maxHeartbeats 4000000 in
set_option maxRecDepth 100000 in
theorem c_scCopy {T : xT} {n : Nat} {sh : Nat → Nat × Nat} {I : xI} {R : xR} {L : xL} {P : xPost} {d b : Nat} {ms : Nat → Nat} (hD : xScene sh R d) (hS : xScene sh R b) (hdb : d + 17 < b ∨ b + 17 < d) (hm : ∀ j, j < 8 → I (b + 1 + 2 * j) 1 = nI (ms j) ∧ ms j ≤ [6, 6, 6, 6, 6, 6, 12, 10].getD j 0) (K : ∀ I2 : xI, (∀ a, (a < d ∨ d + 17 ≤ a) → I2 a = I a) → (∀ t, t < 8 → I2 (d + 1 + 2 * t) 1 = nI (ms t) ∧ ∀ i, i < ms t → I2 (d + 2 + 2 * t) i = I (b + 2 + 2 * t) i) → I2 d 8 = I b 8 → I2 d 9 = I b 9 → I2 d 10 = I b 10 → I2 d 12 = I b 12 → P (n, sh, 0, 0) I2 (up2 R d 11 (R b 11)) L none) : XM T zX6_copyFrom 2 [.ref d, .ref b] n sh I R L P := by
  obtain ⟨ds0, dsl, drl, df0, df1, df2, df3, df4, df5, df6, df7, dw0, dw1, dw2, dw3, dw4, dw5, dw6, dw7⟩ := hD
  obtain ⟨s0, sl, rl, f0, f1, f2, f3, f4, f5, f6, f7, w0, w1, w2, w3, w4, w5, w6, w7⟩ := hS
  have v0 : scInv I d b ms 0 I := ⟨fun _ _ => rfl, rfl, fun t ht => absurd ht (by omega)⟩
  refine x_aload_n (pc := 0) dX6_copyFrom_0 rfl rfl ?_
  refine x_getr (pc := 1) dX6_copyFrom_1 kf_RX6_14 ds0 rfl df0 ?_
  refine x_aload_n (pc := 4) dX6_copyFrom_4 rfl rfl ?_
  refine x_getr (pc := 5) dX6_copyFrom_5 kf_RX6_14 s0 rfl f0 ?_
  refine x_callV (pc := 8) (As := [.ref _]) dX6_copyFrom_8 km_X5_copyFrom kv_X5_copyFrom kl_RX6_77 dw0.1 rfl rfl (by decide) ⟨Nat.le_refl _, Nat.le_refl _⟩ rfl (Nat.le_of_ble_eq_true rfl) (Nat.le_of_ble_eq_true rfl) (c_copyFrom dw0 w0 (by omega) (by omega) (by rw [v0.1 _ (by omega)]; exact (hm 0 (by decide)).1) (hm 0 (by decide)).2 (hm 0 (by decide)).2 (⟨rfl, rfl, ?_⟩))
  have v1 := scInv_step v0 hdb (by decide : 0 < 8) rfl rfl rfl rfl
  generalize hJ1 : xcopy I _ _ _ _ = J1 at v1 ⊢
  refine x_aload_n (pc := 11) dX6_copyFrom_11 rfl rfl ?_
  refine x_getr (pc := 12) dX6_copyFrom_12 kf_RX6_20 ds0 rfl df1 ?_
  refine x_aload_n (pc := 15) dX6_copyFrom_15 rfl rfl ?_
  refine x_getr (pc := 16) dX6_copyFrom_16 kf_RX6_20 s0 rfl f1 ?_
  refine x_callV (pc := 19) (As := [.ref _]) dX6_copyFrom_19 km_X5_copyFrom kv_X5_copyFrom kl_RX6_77 dw1.1 rfl rfl (by decide) ⟨Nat.le_refl _, Nat.le_refl _⟩ rfl (Nat.le_of_ble_eq_true rfl) (Nat.le_of_ble_eq_true rfl) (c_copyFrom dw1 w1 (by omega) (by omega) (by rw [v1.1 _ (by omega)]; exact (hm 1 (by decide)).1) (hm 1 (by decide)).2 (hm 1 (by decide)).2 (⟨rfl, rfl, ?_⟩))
  have v2 := scInv_step v1 hdb (by decide : 1 < 8) rfl rfl rfl rfl
  generalize hJ2 : xcopy J1 _ _ _ _ = J2 at v2 ⊢
  refine x_aload_n (pc := 22) dX6_copyFrom_22 rfl rfl ?_
  refine x_getr (pc := 23) dX6_copyFrom_23 kf_RX6_23 ds0 rfl df2 ?_
  refine x_aload_n (pc := 26) dX6_copyFrom_26 rfl rfl ?_
  refine x_getr (pc := 27) dX6_copyFrom_27 kf_RX6_23 s0 rfl f2 ?_
  refine x_callV (pc := 30) (As := [.ref _]) dX6_copyFrom_30 km_X5_copyFrom kv_X5_copyFrom kl_RX6_77 dw2.1 rfl rfl (by decide) ⟨Nat.le_refl _, Nat.le_refl _⟩ rfl (Nat.le_of_ble_eq_true rfl) (Nat.le_of_ble_eq_true rfl) (c_copyFrom dw2 w2 (by omega) (by omega) (by rw [v2.1 _ (by omega)]; exact (hm 2 (by decide)).1) (hm 2 (by decide)).2 (hm 2 (by decide)).2 (⟨rfl, rfl, ?_⟩))
  have v3 := scInv_step v2 hdb (by decide : 2 < 8) rfl rfl rfl rfl
  generalize hJ3 : xcopy J2 _ _ _ _ = J3 at v3 ⊢
  refine x_aload_n (pc := 33) dX6_copyFrom_33 rfl rfl ?_
  refine x_getr (pc := 34) dX6_copyFrom_34 kf_RX6_26 ds0 rfl df3 ?_
  refine x_aload_n (pc := 37) dX6_copyFrom_37 rfl rfl ?_
  refine x_getr (pc := 38) dX6_copyFrom_38 kf_RX6_26 s0 rfl f3 ?_
  refine x_callV (pc := 41) (As := [.ref _]) dX6_copyFrom_41 km_X5_copyFrom kv_X5_copyFrom kl_RX6_77 dw3.1 rfl rfl (by decide) ⟨Nat.le_refl _, Nat.le_refl _⟩ rfl (Nat.le_of_ble_eq_true rfl) (Nat.le_of_ble_eq_true rfl) (c_copyFrom dw3 w3 (by omega) (by omega) (by rw [v3.1 _ (by omega)]; exact (hm 3 (by decide)).1) (hm 3 (by decide)).2 (hm 3 (by decide)).2 (⟨rfl, rfl, ?_⟩))
  have v4 := scInv_step v3 hdb (by decide : 3 < 8) rfl rfl rfl rfl
  generalize hJ4 : xcopy J3 _ _ _ _ = J4 at v4 ⊢
  refine x_aload_n (pc := 44) dX6_copyFrom_44 rfl rfl ?_
  refine x_getr (pc := 45) dX6_copyFrom_45 kf_RX6_29 ds0 rfl df4 ?_
  refine x_aload_n (pc := 48) dX6_copyFrom_48 rfl rfl ?_
  refine x_getr (pc := 49) dX6_copyFrom_49 kf_RX6_29 s0 rfl f4 ?_
  refine x_callV (pc := 52) (As := [.ref _]) dX6_copyFrom_52 km_X5_copyFrom kv_X5_copyFrom kl_RX6_77 dw4.1 rfl rfl (by decide) ⟨Nat.le_refl _, Nat.le_refl _⟩ rfl (Nat.le_of_ble_eq_true rfl) (Nat.le_of_ble_eq_true rfl) (c_copyFrom dw4 w4 (by omega) (by omega) (by rw [v4.1 _ (by omega)]; exact (hm 4 (by decide)).1) (hm 4 (by decide)).2 (hm 4 (by decide)).2 (⟨rfl, rfl, ?_⟩))
  have v5 := scInv_step v4 hdb (by decide : 4 < 8) rfl rfl rfl rfl
  generalize hJ5 : xcopy J4 _ _ _ _ = J5 at v5 ⊢
  refine x_aload_n (pc := 55) dX6_copyFrom_55 rfl rfl ?_
  refine x_getr (pc := 56) dX6_copyFrom_56 kf_RX6_32 ds0 rfl df5 ?_
  refine x_aload_n (pc := 59) dX6_copyFrom_59 rfl rfl ?_
  refine x_getr (pc := 60) dX6_copyFrom_60 kf_RX6_32 s0 rfl f5 ?_
  refine x_callV (pc := 63) (As := [.ref _]) dX6_copyFrom_63 km_X5_copyFrom kv_X5_copyFrom kl_RX6_77 dw5.1 rfl rfl (by decide) ⟨Nat.le_refl _, Nat.le_refl _⟩ rfl (Nat.le_of_ble_eq_true rfl) (Nat.le_of_ble_eq_true rfl) (c_copyFrom dw5 w5 (by omega) (by omega) (by rw [v5.1 _ (by omega)]; exact (hm 5 (by decide)).1) (hm 5 (by decide)).2 (hm 5 (by decide)).2 (⟨rfl, rfl, ?_⟩))
  have v6 := scInv_step v5 hdb (by decide : 5 < 8) rfl rfl rfl rfl
  generalize hJ6 : xcopy J5 _ _ _ _ = J6 at v6 ⊢
  refine x_aload_n (pc := 66) dX6_copyFrom_66 rfl rfl ?_
  refine x_getr (pc := 67) dX6_copyFrom_67 kf_RX6_35 ds0 rfl df6 ?_
  refine x_aload_n (pc := 70) dX6_copyFrom_70 rfl rfl ?_
  refine x_getr (pc := 71) dX6_copyFrom_71 kf_RX6_35 s0 rfl f6 ?_
  refine x_callV (pc := 74) (As := [.ref _]) dX6_copyFrom_74 km_X5_copyFrom kv_X5_copyFrom kl_RX6_77 dw6.1 rfl rfl (by decide) ⟨Nat.le_refl _, Nat.le_refl _⟩ rfl (Nat.le_of_ble_eq_true rfl) (Nat.le_of_ble_eq_true rfl) (c_copyFrom dw6 w6 (by omega) (by omega) (by rw [v6.1 _ (by omega)]; exact (hm 6 (by decide)).1) (hm 6 (by decide)).2 (hm 6 (by decide)).2 (⟨rfl, rfl, ?_⟩))
  have v7 := scInv_step v6 hdb (by decide : 6 < 8) rfl rfl rfl rfl
  generalize hJ7 : xcopy J6 _ _ _ _ = J7 at v7 ⊢
  refine x_aload_n (pc := 77) dX6_copyFrom_77 rfl rfl ?_
  refine x_getr (pc := 78) dX6_copyFrom_78 kf_RX6_38 ds0 rfl df7 ?_
  refine x_aload_n (pc := 81) dX6_copyFrom_81 rfl rfl ?_
  refine x_getr (pc := 82) dX6_copyFrom_82 kf_RX6_38 s0 rfl f7 ?_
  refine x_callV (pc := 85) (As := [.ref _]) dX6_copyFrom_85 km_X5_copyFrom kv_X5_copyFrom kl_RX6_77 dw7.1 rfl rfl (by decide) ⟨Nat.le_refl _, Nat.le_refl _⟩ rfl (Nat.le_of_ble_eq_true rfl) (Nat.le_of_ble_eq_true rfl) (c_copyFrom dw7 w7 (by omega) (by omega) (by rw [v7.1 _ (by omega)]; exact (hm 7 (by decide)).1) (hm 7 (by decide)).2 (hm 7 (by decide)).2 (⟨rfl, rfl, ?_⟩))
  have v8 := scInv_step v7 hdb (by decide : 7 < 8) rfl rfl rfl rfl
  generalize hJ8 : xcopy J7 _ _ _ _ = J8 at v8 ⊢
  refine x_aload_n (pc := 88) dX6_copyFrom_88 rfl rfl ?_
  refine x_aload_n (pc := 89) dX6_copyFrom_89 rfl rfl ?_
  refine x_get (pc := 90) dX6_copyFrom_90 kf_RX6_41 s0 rfl ?_
  rw [v8.1 b (by omega)]
  refine x_put (pc := 93) dX6_copyFrom_93 kf_RX6_41 ds0 rfl (Or.inl kb_6_8) ?_
  refine x_aload_n (pc := 96) dX6_copyFrom_96 rfl rfl ?_
  refine x_aload_n (pc := 97) dX6_copyFrom_97 rfl rfl ?_
  refine x_get (pc := 98) dX6_copyFrom_98 kf_RX6_45 s0 rfl ?_
  rw [up2_row (show b ≠ d by omega), v8.1 b (by omega)]
  refine x_put (pc := 101) dX6_copyFrom_101 kf_RX6_45 ds0 rfl (Or.inl kb_6_9) ?_
  refine x_aload_n (pc := 104) dX6_copyFrom_104 rfl rfl ?_
  refine x_aload_n (pc := 105) dX6_copyFrom_105 rfl rfl ?_
  refine x_get (pc := 106) dX6_copyFrom_106 kf_RX6_48 s0 rfl ?_
  rw [up2_row (show b ≠ d by omega), up2_row (show b ≠ d by omega), v8.1 b (by omega)]
  refine x_put (pc := 109) dX6_copyFrom_109 kf_RX6_48 ds0 rfl (Or.inl kb_6_10) ?_
  rcases hrb : R b 11 with _ | rg
  · skip
    refine x_aload_n (pc := 112) dX6_copyFrom_112 rfl rfl ?_
    refine x_aload_n (pc := 113) dX6_copyFrom_113 rfl rfl ?_
    refine x_getN (pc := 114) dX6_copyFrom_114 kf_RX6_51 s0 rfl hrb ?_
    refine x_putNl (pc := 117) dX6_copyFrom_117 kf_RX6_51 ds0 rfl ?_
    refine x_aload_n (pc := 120) dX6_copyFrom_120 rfl rfl ?_
    refine x_aload_n (pc := 121) dX6_copyFrom_121 rfl rfl ?_
    refine x_get (pc := 122) dX6_copyFrom_122 kf_RX6_55 s0 rfl ?_
    rw [up2_row (show b ≠ d by omega), up2_row (show b ≠ d by omega), up2_row (show b ≠ d by omega), v8.1 b (by omega)]
    refine x_put (pc := 125) dX6_copyFrom_125 kf_RX6_55 ds0 rfl (Or.inl kb_6_12) ?_
    refine x_return (pc := 128) dX6_copyFrom_128 rfl ⟨Nat.le_refl _, Nat.le_refl _⟩ ?_
    rw [hrb] at K
    refine K _ (fun a ha => by rw [up2_row (by omega), up2_row (by omega), up2_row (by omega), up2_row (by omega)]; exact v8.1 a ha) (fun t ht => by rw [up2_row (show d + 1 + 2 * t ≠ d by omega), up2_row (show d + 1 + 2 * t ≠ d by omega), up2_row (show d + 1 + 2 * t ≠ d by omega), up2_row (show d + 1 + 2 * t ≠ d by omega), up2_row (show d + 2 + 2 * t ≠ d by omega), up2_row (show d + 2 + 2 * t ≠ d by omega), up2_row (show d + 2 + 2 * t ≠ d by omega), up2_row (show d + 2 + 2 * t ≠ d by omega)]; exact v8.2.2 t ht) ?_ ?_ ?_ ?_
    · simp [up2]
    · simp [up2]
    · simp [up2]
    · simp [up2]
  · skip
    refine x_aload_n (pc := 112) dX6_copyFrom_112 rfl rfl ?_
    refine x_aload_n (pc := 113) dX6_copyFrom_113 rfl rfl ?_
    refine x_getr (pc := 114) dX6_copyFrom_114 kf_RX6_51 s0 rfl hrb ?_
    refine x_putr (pc := 117) dX6_copyFrom_117 kf_RX6_51 ds0 rfl ?_
    refine x_aload_n (pc := 120) dX6_copyFrom_120 rfl rfl ?_
    refine x_aload_n (pc := 121) dX6_copyFrom_121 rfl rfl ?_
    refine x_get (pc := 122) dX6_copyFrom_122 kf_RX6_55 s0 rfl ?_
    rw [up2_row (show b ≠ d by omega), up2_row (show b ≠ d by omega), up2_row (show b ≠ d by omega), v8.1 b (by omega)]
    refine x_put (pc := 125) dX6_copyFrom_125 kf_RX6_55 ds0 rfl (Or.inl kb_6_12) ?_
    refine x_return (pc := 128) dX6_copyFrom_128 rfl ⟨Nat.le_refl _, Nat.le_refl _⟩ ?_
    rw [hrb] at K
    refine K _ (fun a ha => by rw [up2_row (by omega), up2_row (by omega), up2_row (by omega), up2_row (by omega)]; exact v8.1 a ha) (fun t ht => by rw [up2_row (show d + 1 + 2 * t ≠ d by omega), up2_row (show d + 1 + 2 * t ≠ d by omega), up2_row (show d + 1 + 2 * t ≠ d by omega), up2_row (show d + 1 + 2 * t ≠ d by omega), up2_row (show d + 2 + 2 * t ≠ d by omega), up2_row (show d + 2 + 2 * t ≠ d by omega), up2_row (show d + 2 + 2 * t ≠ d by omega), up2_row (show d + 2 + 2 * t ≠ d by omega)]; exact v8.2.2 t ht) ?_ ?_ ?_ ?_
    · simp [up2]
    · simp [up2]
    · simp [up2]
    · simp [up2]

