/-! ===== Scene: a tenth; questions of all ===== -/
theorem rgEval.keep2 {sh : Nat → Nat × Nat} {R : xR} {I I' : xI} {rg : Nat} {LN : xLN} (hr : xRing sh R rg) (h : rgEval I rg LN) (hk : ∀ a, (sh a = (0, 5) ∨ sh a = (1, 100)) → I' a = I a) : rgEval I' rg LN := by
  obtain ⟨r1, r2, r3, r4, r5, r6, r7⟩ := hr
  unfold rgEval at h ⊢
  rw [hk (rg + 1) (Or.inl r5.1), hk (rg + 2) (Or.inr r5.2.2.1), hk (rg + 3) (Or.inl r6.1), hk (rg + 4) (Or.inr r6.2.2.1), hk (rg + 5) (Or.inl r7.1), hk (rg + 6) (Or.inr r7.2.2.1)]
  exact h
theorem scLines.keep2 {sh : Nat → Nat × Nat} {R : xR} {I I' : xI} {b : Nat} {LN : xLN} (h : scLines sh R I b LN) (hk : ∀ a, (sh a = (0, 5) ∨ sh a = (1, 100)) → I' a = I a) : scLines sh R I' b LN := by
  rcases h with ⟨q1, q2⟩ | ⟨rg, q1, q2, q3⟩
  · exact Or.inl ⟨q1, q2⟩
  · exact Or.inr ⟨rg, q1, q2, q3.keep2 q2 hk⟩
theorem bRow.set {I : xI} {r q m i x : Nat} {f : Nat → Nat} (hq : q = r + 1) (h : bRow I r m f) : bRow (up2 I q i (nI x)) r m (fun j => if j = i then x else f j) := by
  subst hq
  refine ⟨by rw [up2_a (by omega)]; exact h.1, fun j hj => ?_⟩
  by_cases hji : j = i
  · subst hji
    show up2 I (r + 1) j (nI x) (r + 1) j = nI (if j = j then x else f j)
    rw [up2_s, if_pos rfl]
  · show up2 I (r + 1) i (nI x) (r + 1) j = nI (if j = i then x else f j)
    rw [up2_k hji, if_neg hji]
    exact h.2 j hj
theorem SC.setCell {sh : Nat → Nat × Nat} {R : xR} {I : xI} {b nb ta te lo : Nat} {ki ve ce sto hu : Nat → Nat} {LN : xLN} {i x : Nat} (h : SC sh R I b nb ki ve ce sto hu ta te lo LN) (hx : x < 36) : SC sh R (up2 I (b + 6) i (nI x)) b nb ki ve (fun j => if j = i then x else ce j) sto hu ta te lo LN := by
  obtain ⟨a1, a2, a3, a4, a5, a6, a7, a8, a9, a10, a11, a12, a13, a14, a15⟩ := h
  have k : ∀ j, j ≠ 6 → up2 I (b + 6) i (nI x) (b + j) = I (b + j) := fun j hj => up2_row (by omega)
  have k0 : up2 I (b + 6) i (nI x) b = I b := up2_row (by omega)
  refine ⟨a1, a2, a3.keep (k 1 (by omega)) (k 2 (by omega)), a4.keep (k 3 (by omega)) (k 4 (by omega)), a5.set rfl, a6.keep (k 7 (by omega)) (k 8 (by omega)), a7.keep (k 9 (by omega)) (k 10 (by omega)), fun j hj => ?_, by rw [k0]; exact a9, a10, by rw [k0]; exact a11, a12, by rw [k0]; exact a13, a14, a15.keep2 (fun a ha => up2_row (fun q => ?_))⟩
  · obtain ⟨b1, b2, b3, b4, b5⟩ := a8 j hj
    refine ⟨b1, b2, ?_, b4, b5⟩
    show (if j = i then x else ce j) < 36
    split
    · exact hx
    · exact b3
  · have h6 := (by obtain ⟨_, _, _, _, _, _, _, _, _, _, _, _, _, w2, _⟩ := a1; exact w2.2.2.1 : sh (b + 6) = (1, 6))
    rw [q, h6] at ha
    rcases ha with ha | ha <;> cases ha
theorem SC.setTenth {sh : Nat → Nat × Nat} {R : xR} {I : xI} {b nb ta te lo : Nat} {ki ve ce sto hu : Nat → Nat} {LN : xLN} {t : Nat} (h : SC sh R I b nb ki ve ce sto hu ta te lo LN) (ht : t < 1000000) : SC sh R (up2 I b 9 (nI t)) b nb ki ve ce sto hu ta t lo LN := by
  obtain ⟨a1, a2, a3, a4, a5, a6, a7, a8, a9, a10, a11, a12, a13, a14, a15⟩ := h
  have k : ∀ j, 0 < j → up2 I b 9 (nI t) (b + j) = I (b + j) := fun j hj => up2_row (by omega)
  refine ⟨a1, a2, a3.keep (k 1 (by omega)) (k 2 (by omega)), a4.keep (k 3 (by omega)) (k 4 (by omega)), a5.keep (k 5 (by omega)) (k 6 (by omega)), a6.keep (k 7 (by omega)) (k 8 (by omega)), a7.keep (k 9 (by omega)) (k 10 (by omega)), a8, by rw [up2_k (by decide)]; exact a9, a10, up2_s, ht, by rw [up2_k (by decide)]; exact a13, a14, a15.keep2 (fun a ha => up2_row (fun q => ?_))⟩
  rw [q, a1.1] at ha
  rcases ha with ha | ha <;> cases ha
theorem SC.setTamer {sh : Nat → Nat × Nat} {R : xR} {I : xI} {b nb ta te lo : Nat} {ki ve ce sto hu : Nat → Nat} {LN : xLN} {t : Nat} (h : SC sh R I b nb ki ve ce sto hu ta te lo LN) (ht : t < 36) : SC sh R (up2 I b 8 (nI t)) b nb ki ve ce sto hu t te lo LN := by
  obtain ⟨a1, a2, a3, a4, a5, a6, a7, a8, a9, a10, a11, a12, a13, a14, a15⟩ := h
  have k : ∀ j, 0 < j → up2 I b 8 (nI t) (b + j) = I (b + j) := fun j hj => up2_row (by omega)
  refine ⟨a1, a2, a3.keep (k 1 (by omega)) (k 2 (by omega)), a4.keep (k 3 (by omega)) (k 4 (by omega)), a5.keep (k 5 (by omega)) (k 6 (by omega)), a6.keep (k 7 (by omega)) (k 8 (by omega)), a7.keep (k 9 (by omega)) (k 10 (by omega)), a8, up2_s, ht, by rw [up2_k (by decide)]; exact a11, a12, by rw [up2_k (by decide)]; exact a13, a14, a15.keep2 (fun a ha => up2_row (fun q => ?_))⟩
  rw [q, a1.1] at ha
  rcases ha with ha | ha <;> cases ha
theorem dCome_lt {nb : Nat} {ce : Nat → Nat} {into : Bool} {ta goal own code : Nat} (ho : own < 36) : (dCome nb ce into ta goal own code).2 < 36 := by
  unfold dCome
  split
  · exact ho
  · exact pick_lt ho 4
theorem deedF_lt {nb : Nat} {ce : Nat → Nat} {k e s ta te y c own : Nat} (ho : own < 36) : (deedF nb ce k e s ta te y c own).2 < 36 := by
  have hy : yPk nb ce ta own 4 < 36 := pick_lt ho 4
  unfold deedF yDeed
  repeat' split
  all_goals first | exact ho | exact hy | exact dCome_lt ho
theorem dCome_code {nb : Nat} {ce : Nat → Nat} {into : Bool} {ta goal own code : Nat} (ho : code < 4) : (dCome nb ce into ta goal own code).1 < 4 := by
  unfold dCome
  split
  · exact Nat.zero_lt_succ _
  · exact ho
theorem deedN_code {nb ta te lo : Nat} {ki ve ce sto hu : Nat → Nat} {LN : xLN} {bi : Nat} : (deedN nb ki ve ce sto hu ta te lo LN bi).1 < 4 := by
  unfold deedN deedF yDeed
  repeat' split
  all_goals first | exact Nat.zero_lt_succ _ | exact dCome_code (by decide) | (show 1 < 4; decide)
theorem deedN_lt {nb ta te lo : Nat} {ki ve ce sto hu : Nat → Nat} {LN : xLN} {bi : Nat} (ho : ce bi < 36) : (deedN nb ki ve ce sto hu ta te lo LN bi).2 < 36 := deedF_lt ho
/-- the cells when the first i have done what they do -/
def tenthF (nb : Nat) (ki ve ce sto hu : Nat → Nat) (ta te lo : Nat) (LN : xLN) : Nat → Nat → Nat
  | 0 => ce
  | i + 1 => fun j => if j = i then (deedN nb ki ve (tenthF nb ki ve ce sto hu ta te lo LN i) sto hu ta te lo LN i).2 else tenthF nb ki ve ce sto hu ta te lo LN i j
/-- what a walk of a scene may change: its look, its aim, its tamer and tenth, its cells -/
def scFr (b : Nat) (I I' : xI) : Prop := (∀ a, a ≠ b + 17 → a ≠ b → a ≠ b + 6 → I' a = I a) ∧ ∀ k, k ≠ 14 → k ≠ 8 → k ≠ 9 → I' b k = I b k
theorem scFr.rf {b : Nat} {I : xI} : scFr b I I := ⟨fun _ _ _ _ => rfl, fun _ _ _ _ => rfl⟩
theorem scFr.tr {b : Nat} {I I' I'' : xI} (h : scFr b I I') (h' : scFr b I' I'') : scFr b I I'' := ⟨fun a p1 p2 p3 => (h'.1 a p1 p2 p3).trans (h.1 a p1 p2 p3), fun k p1 p2 p3 => (h'.2 k p1 p2 p3).trans (h.2 k p1 p2 p3)⟩
theorem scFr.of {b : Nat} {I I' : xI} (h1 : ∀ a, a ≠ b + 17 → a ≠ b → I' a = I a) (h2 : ∀ k, k ≠ 14 → I' b k = I b k) : scFr b I I' := ⟨fun a p1 p2 _ => h1 a p1 p2, fun k p1 _ _ => h2 k p1⟩
theorem scFr.cell {b i : Nat} {x : Int32} {I : xI} : scFr b I (up2 I (b + 6) i x) := ⟨fun a p1 p2 p3 => up2_row p3, fun k _ _ _ => by rw [up2_a (by omega)]⟩
theorem scFr.fld {b k : Nat} {x : Int32} {I : xI} (hk : k = 8 ∨ k = 9) : scFr b I (up2 I b k x) := ⟨fun a p1 p2 p3 => up2_row p2, fun j p1 p2 p3 => up2_k (by omega)⟩
set_option maxHeartbeats 4000000 in
set_option maxRecDepth 100000 in
theorem l_passTenth {T : xT} {n : Nat} {sh : Nat → Nat × Nat} {I : xI} {R : xR} {L : xL} {P : xPost} {b nb ta te lo : Nat} {ki ve ce sto hu : Nat → Nat} {LN : xLN} (h : SC sh R I b nb ki ve ce sto hu ta te lo LN) (ht1 : te + 1 < 1000000) (K : ∀ I2 : xI, SC sh R I2 b nb ki ve (tenthF nb ki ve ce sto hu ta te lo LN nb) sto hu ta (te + 1) lo LN → scFr b I I2 → P (n, sh, 0, 0) I2 R L none) : ∀ (w i : Nat), i + w = nb → ∀ (J : xI), SC sh R J b nb ki ve (tenthF nb ki ve ce sto hu ta te lo LN i) sto hu ta te lo LN → scFr b I J → X T zX6_passTenth 5 0 0 P 2 [(0, .ref b), (1, .int (nI i))] [] (n, sh, 0, 0) (J) R L := by
  have hS := h.1
  have hn6 := h.2.1
  obtain ⟨s0, sl, rl, f0, f1, f2, f3, f4, f5, f6, f7, w0, w1, w2, w3, w4, w5, w6, w7⟩ := hS
  intro w
  induction w with
  | zero =>
    intro i hw J hj fj
    have hz : i = nb := by omega
    refine x_iload_n (pc := 2) dX6_passTenth_2 rfl rfl ?_
    refine x_aload_n (pc := 3) dX6_passTenth_3 rfl rfl ?_
    refine x_callV (pc := 4) (As := []) dX6_passTenth_4 km_X6_size kv_X6_size kl_RX6_71 s0 rfl rfl (by decide) ⟨Nat.le_refl _, Nat.le_refl _⟩ rfl (Nat.le_of_ble_eq_true rfl) (Nat.le_of_ble_eq_true rfl) (c_size hj.1 hj.2.2.2.2.1 hj.2.1 (⟨rfl, rfl, ?_⟩))
    refine x_icmpn_ge_t (pc := 7) (tgt := 34) (a := i) (b := nb) dX6_passTenth_7 (by decide) (by omega) (by omega) (by omega) ?_
    refine x_aload_n (pc := 34) dX6_passTenth_34 rfl rfl ?_
    refine x_dup (pc := 35) dX6_passTenth_35 rfl ?_
    refine x_get (pc := 36) dX6_passTenth_36 kf_RX6_45 s0 rfl ?_
    rw [hj.2.2.2.2.2.2.2.2.2.2.1]
    refine x_iconst (pc := 39) (v := 1) dX6_passTenth_39 (by decide) ?_
    refine x_iaddn (pc := 40) (a := te) (b := 1) dX6_passTenth_40 ?_
    refine x_put (pc := 41) dX6_passTenth_41 kf_RX6_45 s0 rfl (Or.inl kb_6_9) ?_
    refine x_return (pc := 44) dX6_passTenth_44 rfl ⟨Nat.le_refl _, Nat.le_refl _⟩ ?_
    rw [hz] at hj
    exact K _ (hj.setTenth ht1) (fj.tr (scFr.fld (Or.inr rfl)))
  | succ w ih =>
    intro i hw J hj fj
    have hi : i < nb := by omega
    refine x_iload_n (pc := 2) dX6_passTenth_2 rfl rfl ?_
    refine x_aload_n (pc := 3) dX6_passTenth_3 rfl rfl ?_
    refine x_callV (pc := 4) (As := []) dX6_passTenth_4 km_X6_size kv_X6_size kl_RX6_71 s0 rfl rfl (by decide) ⟨Nat.le_refl _, Nat.le_refl _⟩ rfl (Nat.le_of_ble_eq_true rfl) (Nat.le_of_ble_eq_true rfl) (c_size hj.1 hj.2.2.2.2.1 hj.2.1 (⟨rfl, rfl, ?_⟩))
    refine x_icmpn_ge_f (pc := 7) (tgt := 34) (a := i) (b := nb) dX6_passTenth_7 (by decide) (by omega) (by omega) (by omega) ?_
    refine x_aload_n (pc := 10) dX6_passTenth_10 rfl rfl ?_
    refine x_iload_n (pc := 11) dX6_passTenth_11 rfl rfl ?_
    refine x_callV (pc := 12) (As := [.int _]) dX6_passTenth_12 km_X6_deedOf kv_X6_deedOf kl_RX6_103 s0 rfl rfl (by decide) ⟨Nat.le_refl _, Nat.le_refl _⟩ rfl (Nat.le_of_ble_eq_true rfl) (Nat.le_of_ble_eq_true rfl) (c_deedOf hj hi (fun I2 g1 g2 g3 => ⟨rfl, rfl, ?_⟩))
    have h2 := hj.keep g1 g2
    have dl := deedN_lt (nb := nb) (ki := ki) (ve := ve) (ce := tenthF nb ki ve ce sto hu ta te lo LN i) (sto := sto) (hu := hu) (ta := ta) (te := te) (lo := lo) (LN := LN) (bi := i) ((hj.2.2.2.2.2.2.2.1 i hi).2.2.1)
    refine x_pop (pc := 15) dX6_passTenth_15 rfl ?_
    refine x_aload_n (pc := 16) dX6_passTenth_16 rfl rfl ?_
    refine x_getr (pc := 17) dX6_passTenth_17 kf_RX6_23 s0 rfl f2 ?_
    refine x_iload_n (pc := 20) dX6_passTenth_20 rfl rfl ?_
    refine x_aload_n (pc := 21) dX6_passTenth_21 rfl rfl ?_
    refine x_get (pc := 22) dX6_passTenth_22 kf_RX6_65 s0 rfl ?_
    rw [g3]
    refine x_callV (pc := 25) (As := [.int _, .int _]) dX6_passTenth_25 km_X5_put kv_X5_put kl_RX6_92 w2.1 rfl rfl (by decide) ⟨Nat.le_refl _, Nat.le_refl _⟩ rfl (Nat.le_of_ble_eq_true rfl) (Nat.le_of_ble_eq_true rfl) (c_put w2 h2.2.2.2.2.1.1 hi hn6 (⟨rfl, rfl, ?_⟩))
    refine x_iinc (pc := 28) (v := nI (i + 1)) (lv' := [(0, .ref b), (1, .int (nI (i + 1)))]) dX6_passTenth_28 rfl (nI_1 _) (by decide) rfl ?_
    refine x_goto (pc := 31) (tgt := 2) dX6_passTenth_31 (by decide) ?_
    exact ih (i + 1) (by omega) _ (h2.setCell dl) (fj.tr ((scFr.of g1 g2).tr scFr.cell))

set_option maxHeartbeats 4000000 in
set_option maxRecDepth 100000 in
theorem c_passTenth {T : xT} {n : Nat} {sh : Nat → Nat × Nat} {I : xI} {R : xR} {L : xL} {P : xPost} {b nb ta te lo : Nat} {ki ve ce sto hu : Nat → Nat} {LN : xLN} (h : SC sh R I b nb ki ve ce sto hu ta te lo LN) (ht1 : te + 1 < 1000000) (K : ∀ I2 : xI, SC sh R I2 b nb ki ve (tenthF nb ki ve ce sto hu ta te lo LN nb) sto hu ta (te + 1) lo LN → scFr b I I2 → P (n, sh, 0, 0) I2 R L none) : XM T zX6_passTenth 5 [.ref b] n sh I R L P := by
  refine x_iconst (pc := 0) (v := 0) dX6_passTenth_0 (by decide) ?_
  refine x_istore_n (pc := 1) (lv' := [(0, .ref b), (1, .int 0)]) dX6_passTenth_1 rfl (by decide) rfl ?_
  exact l_passTenth h ht1 K nb 0 (by omega) I h scFr.rf

set_option maxHeartbeats 4000000 in
set_option maxRecDepth 100000 in
theorem l_anyComes {T : xT} {n : Nat} {sh : Nat → Nat × Nat} {I : xI} {R : xR} {L : xL} {P : xPost} {b nb ta te lo : Nat} {ki ve ce sto hu : Nat → Nat} {LN : xLN} (h : SC sh R I b nb ki ve ce sto hu ta te lo LN) (K1 : ∀ I2 : xI, (∃ i, i < nb ∧ (deedN nb ki ve ce sto hu ta te lo LN i).1 = 2) → (∀ a, a ≠ b + 17 → a ≠ b → I2 a = I a) → (∀ k, k ≠ 14 → I2 b k = I b k) → P (n, sh, 0, 0) I2 R L (some (.int 1))) (K2 : ∀ I2 : xI, (∀ i, i < nb → ¬ (deedN nb ki ve ce sto hu ta te lo LN i).1 = 2) → (∀ a, a ≠ b + 17 → a ≠ b → I2 a = I a) → (∀ k, k ≠ 14 → I2 b k = I b k) → P (n, sh, 0, 0) I2 R L (some (.int 0))) : ∀ (w i : Nat), i + w = nb → ∀ (J : xI), SC sh R J b nb ki ve ce sto hu ta te lo LN → (∀ a, a ≠ b + 17 → a ≠ b → J a = I a) → (∀ k, k ≠ 14 → J b k = I b k) → (∀ j, j < i → ¬ (deedN nb ki ve ce sto hu ta te lo LN j).1 = 2) → X T zX6_anyComes 5 0 0 P 2 [(0, .ref b), (1, .int (nI i))] [] (n, sh, 0, 0) (J) R L := by
  have hS := h.1
  have hn6 := h.2.1
  obtain ⟨s0, sl, rl, f0, f1, f2, f3, f4, f5, f6, f7, w0, w1, w2, w3, w4, w5, w6, w7⟩ := hS
  intro w
  induction w with
  | zero =>
    intro i hw J hj f1 f2 hno
    have hz : i = nb := by omega
    refine x_iload_n (pc := 2) dX6_anyComes_2 rfl rfl ?_
    refine x_aload_n (pc := 3) dX6_anyComes_3 rfl rfl ?_
    refine x_callV (pc := 4) (As := []) dX6_anyComes_4 km_X6_size kv_X6_size kl_RX6_71 s0 rfl rfl (by decide) ⟨Nat.le_refl _, Nat.le_refl _⟩ rfl (Nat.le_of_ble_eq_true rfl) (Nat.le_of_ble_eq_true rfl) (c_size hj.1 hj.2.2.2.2.1 hj.2.1 (⟨rfl, rfl, ?_⟩))
    refine x_icmpn_ge_t (pc := 7) (tgt := 27) (a := i) (b := nb) dX6_anyComes_7 (by decide) (by omega) (by omega) (by omega) ?_
    refine x_iconst (pc := 27) (v := 0) dX6_anyComes_27 (by decide) ?_
    refine x_ireturn (pc := 28) dX6_anyComes_28 ⟨_, rfl, by decide⟩ ⟨Nat.le_refl _, Nat.le_refl _⟩ ?_
    exact K2 _ (fun j hj9 => hno j (by omega)) f1 f2
  | succ w ih =>
    intro i hw J hj f1 f2 hno
    have hi : i < nb := by omega
    refine x_iload_n (pc := 2) dX6_anyComes_2 rfl rfl ?_
    refine x_aload_n (pc := 3) dX6_anyComes_3 rfl rfl ?_
    refine x_callV (pc := 4) (As := []) dX6_anyComes_4 km_X6_size kv_X6_size kl_RX6_71 s0 rfl rfl (by decide) ⟨Nat.le_refl _, Nat.le_refl _⟩ rfl (Nat.le_of_ble_eq_true rfl) (Nat.le_of_ble_eq_true rfl) (c_size hj.1 hj.2.2.2.2.1 hj.2.1 (⟨rfl, rfl, ?_⟩))
    refine x_icmpn_ge_f (pc := 7) (tgt := 27) (a := i) (b := nb) dX6_anyComes_7 (by decide) (by omega) (by omega) (by omega) ?_
    refine x_aload_n (pc := 10) dX6_anyComes_10 rfl rfl ?_
    refine x_iload_n (pc := 11) dX6_anyComes_11 rfl rfl ?_
    refine x_callV (pc := 12) (As := [.int _]) dX6_anyComes_12 km_X6_deedOf kv_X6_deedOf kl_RX6_103 s0 rfl rfl (by decide) ⟨Nat.le_refl _, Nat.le_refl _⟩ rfl (Nat.le_of_ble_eq_true rfl) (Nat.le_of_ble_eq_true rfl) (c_deedOf hj hi (fun I2 g1 g2 g3 => ⟨rfl, rfl, ?_⟩))
    have h2 := hj.keep g1 g2
    have dlt : (deedN nb ki ve ce sto hu ta te lo LN i).1 < 4 := deedN_code
    refine x_iconst (pc := 15) (v := 2) dX6_anyComes_15 (by decide) ?_
    refine x_icmpn_ne (pc := 16) (tgt := 21) (a := (deedN nb ki ve ce sto hu ta te lo LN i).1) (b := 2) dX6_anyComes_16 (by decide) (by omega) (by decide) (fun c16 => ?_) (fun c16 => ?_)
    · skip
      refine x_iinc (pc := 21) (v := nI (i + 1)) (lv' := [(0, .ref b), (1, .int (nI (i + 1)))]) dX6_anyComes_21 rfl (nI_1 _) (by decide) rfl ?_
      refine x_goto (pc := 24) (tgt := 2) dX6_anyComes_24 (by decide) ?_
      exact ih (i + 1) (by omega) I2 h2 (fun a p1 p2 => (g1 a p1 p2).trans (f1 a p1 p2)) (fun k p => (g2 k p).trans (f2 k p)) (fun j hj9 => (Nat.lt_succ_iff_lt_or_eq.mp hj9).elim (hno j) (fun e9 => by subst e9; exact c16))
    · skip
      refine x_iconst (pc := 19) (v := 1) dX6_anyComes_19 (by decide) ?_
      refine x_ireturn (pc := 20) dX6_anyComes_20 ⟨_, rfl, by decide⟩ ⟨Nat.le_refl _, Nat.le_refl _⟩ ?_
      exact K1 _ ⟨i, hi, c16⟩ (fun a p1 p2 => (g1 a p1 p2).trans (f1 a p1 p2)) (fun k p => (g2 k p).trans (f2 k p))

set_option maxHeartbeats 4000000 in
set_option maxRecDepth 100000 in
theorem c_anyComes {T : xT} {n : Nat} {sh : Nat → Nat × Nat} {I : xI} {R : xR} {L : xL} {P : xPost} {b nb ta te lo : Nat} {ki ve ce sto hu : Nat → Nat} {LN : xLN} (h : SC sh R I b nb ki ve ce sto hu ta te lo LN) (K1 : ∀ I2 : xI, (∃ i, i < nb ∧ (deedN nb ki ve ce sto hu ta te lo LN i).1 = 2) → (∀ a, a ≠ b + 17 → a ≠ b → I2 a = I a) → (∀ k, k ≠ 14 → I2 b k = I b k) → P (n, sh, 0, 0) I2 R L (some (.int 1))) (K2 : ∀ I2 : xI, (∀ i, i < nb → ¬ (deedN nb ki ve ce sto hu ta te lo LN i).1 = 2) → (∀ a, a ≠ b + 17 → a ≠ b → I2 a = I a) → (∀ k, k ≠ 14 → I2 b k = I b k) → P (n, sh, 0, 0) I2 R L (some (.int 0))) : XM T zX6_anyComes 5 [.ref b] n sh I R L P := by
  refine x_iconst (pc := 0) (v := 0) dX6_anyComes_0 (by decide) ?_
  refine x_istore_n (pc := 1) (lv' := [(0, .ref b), (1, .int 0)]) dX6_anyComes_1 rfl (by decide) rfl ?_
  exact l_anyComes h K1 K2 nb 0 (by omega) I h (fun _ _ _ => rfl) (fun _ _ => rfl) (fun j hj => absurd hj (by omega))

set_option maxHeartbeats 4000000 in
set_option maxRecDepth 100000 in
theorem l_leavesAlone {T : xT} {n : Nat} {sh : Nat → Nat × Nat} {I : xI} {R : xR} {L : xL} {P : xPost} {b nb ta te lo : Nat} {ki ve ce sto hu : Nat → Nat} {LN : xLN} {x : Nat} (hx : x < 6) (h : SC sh R I b nb ki ve ce sto hu ta te lo LN) (K1 : ∀ I2 : xI, (∀ i, i < nb → (¬ (deedN nb ki ve ce sto hu ta te lo LN i).1 = 0 ↔ i = x)) → (∀ a, a ≠ b + 17 → a ≠ b → I2 a = I a) → (∀ k, k ≠ 14 → I2 b k = I b k) → P (n, sh, 0, 0) I2 R L (some (.int 1))) (K2 : ∀ I2 : xI, (∃ i, i < nb ∧ ¬ (¬ (deedN nb ki ve ce sto hu ta te lo LN i).1 = 0 ↔ i = x)) → (∀ a, a ≠ b + 17 → a ≠ b → I2 a = I a) → (∀ k, k ≠ 14 → I2 b k = I b k) → P (n, sh, 0, 0) I2 R L (some (.int 0))) : ∀ (w i : Nat), i + w = nb → ∀ (J : xI), SC sh R J b nb ki ve ce sto hu ta te lo LN → (∀ a, a ≠ b + 17 → a ≠ b → J a = I a) → (∀ k, k ≠ 14 → J b k = I b k) → (∀ j, j < i → (¬ (deedN nb ki ve ce sto hu ta te lo LN j).1 = 0 ↔ j = x)) → X T zX6_leavesAlone 5 0 0 P 2 [(0, .ref b), (1, .int (nI x)), (2, .int (nI i))] [] (n, sh, 0, 0) (J) R L := by
  have hS := h.1
  have hn6 := h.2.1
  obtain ⟨s0, sl, rl, f0, f1, f2, f3, f4, f5, f6, f7, w0, w1, w2, w3, w4, w5, w6, w7⟩ := hS
  intro w
  induction w with
  | zero =>
    intro i hw J hj f1 f2 hno
    have hz : i = nb := by omega
    refine x_iload_n (pc := 2) dX6_leavesAlone_2 rfl rfl ?_
    refine x_aload_n (pc := 3) dX6_leavesAlone_3 rfl rfl ?_
    refine x_callV (pc := 4) (As := []) dX6_leavesAlone_4 km_X6_size kv_X6_size kl_RX6_71 s0 rfl rfl (by decide) ⟨Nat.le_refl _, Nat.le_refl _⟩ rfl (Nat.le_of_ble_eq_true rfl) (Nat.le_of_ble_eq_true rfl) (c_size hj.1 hj.2.2.2.2.1 hj.2.1 (⟨rfl, rfl, ?_⟩))
    refine x_icmpn_ge_t (pc := 7) (tgt := 44) (a := i) (b := nb) dX6_leavesAlone_7 (by decide) (by omega) (by omega) (by omega) ?_
    refine x_iconst (pc := 44) (v := 1) dX6_leavesAlone_44 (by decide) ?_
    refine x_ireturn (pc := 45) dX6_leavesAlone_45 ⟨_, rfl, by decide⟩ ⟨Nat.le_refl _, Nat.le_refl _⟩ ?_
    exact K1 _ (fun j hj9 => hno j (by omega)) f1 f2
  | succ w ih =>
    intro i hw J hj f1 f2 hno
    have hi : i < nb := by omega
    refine x_iload_n (pc := 2) dX6_leavesAlone_2 rfl rfl ?_
    refine x_aload_n (pc := 3) dX6_leavesAlone_3 rfl rfl ?_
    refine x_callV (pc := 4) (As := []) dX6_leavesAlone_4 km_X6_size kv_X6_size kl_RX6_71 s0 rfl rfl (by decide) ⟨Nat.le_refl _, Nat.le_refl _⟩ rfl (Nat.le_of_ble_eq_true rfl) (Nat.le_of_ble_eq_true rfl) (c_size hj.1 hj.2.2.2.2.1 hj.2.1 (⟨rfl, rfl, ?_⟩))
    refine x_icmpn_ge_f (pc := 7) (tgt := 44) (a := i) (b := nb) dX6_leavesAlone_7 (by decide) (by omega) (by omega) (by omega) ?_
    refine x_aload_n (pc := 10) dX6_leavesAlone_10 rfl rfl ?_
    refine x_iload_n (pc := 11) dX6_leavesAlone_11 rfl rfl ?_
    refine x_callV (pc := 12) (As := [.int _]) dX6_leavesAlone_12 km_X6_deedOf kv_X6_deedOf kl_RX6_103 s0 rfl rfl (by decide) ⟨Nat.le_refl _, Nat.le_refl _⟩ rfl (Nat.le_of_ble_eq_true rfl) (Nat.le_of_ble_eq_true rfl) (c_deedOf hj hi (fun I2 g1 g2 g3 => ⟨rfl, rfl, ?_⟩))
    have h2 := hj.keep g1 g2
    have dlt : (deedN nb ki ve ce sto hu ta te lo LN i).1 < 4 := deedN_code
    refine x_ifn_eq (pc := 15) (tgt := 22) (a := (deedN nb ki ve ce sto hu ta te lo LN i).1) dX6_leavesAlone_15 (by decide) (by omega) (fun c15 => ?_) (fun c15 => ?_)
    · skip
      refine x_iconst (pc := 22) (v := 0) dX6_leavesAlone_22 (by decide) ?_
      refine x_iload_n (pc := 23) dX6_leavesAlone_23 rfl rfl ?_
      refine x_iload_n (pc := 24) dX6_leavesAlone_24 rfl rfl ?_
      refine x_icmpn_ne (pc := 25) (tgt := 32) (a := i) (b := x) dX6_leavesAlone_25 (by decide) (by omega) (by omega) (fun c25 => ?_) (fun c25 => ?_)
      · skip
        refine x_iconst (pc := 32) (v := 0) dX6_leavesAlone_32 (by decide) ?_
        refine x_icmp_eq_t (pc := 33) (tgt := 38) dX6_leavesAlone_33 (by decide) (by decide) ?_
        refine x_iinc (pc := 38) (v := nI (i + 1)) (lv' := [(0, .ref b), (1, .int (nI x)), (2, .int (nI (i + 1)))]) dX6_leavesAlone_38 rfl (nI_1 _) (by decide) rfl ?_
        refine x_goto (pc := 41) (tgt := 2) dX6_leavesAlone_41 (by decide) ?_
        exact ih (i + 1) (by omega) I2 h2 (fun a p1 p2 => (g1 a p1 p2).trans (f1 a p1 p2)) (fun k p => (g2 k p).trans (f2 k p)) (fun j hj9 => (Nat.lt_succ_iff_lt_or_eq.mp hj9).elim (hno j) (fun e9 => by subst e9; simp only [c15, not_true_eq_false, not_false_eq_true, false_iff, true_iff]; exact c25))
      · skip
        refine x_iconst (pc := 28) (v := 1) dX6_leavesAlone_28 (by decide) ?_
        refine x_goto (pc := 29) (tgt := 33) dX6_leavesAlone_29 (by decide) ?_
        refine x_icmp_eq_f (pc := 33) (tgt := 38) dX6_leavesAlone_33 (by decide) (by decide) ?_
        refine x_iconst (pc := 36) (v := 0) dX6_leavesAlone_36 (by decide) ?_
        refine x_ireturn (pc := 37) dX6_leavesAlone_37 ⟨_, rfl, by decide⟩ ⟨Nat.le_refl _, Nat.le_refl _⟩ ?_
        exact K2 _ ⟨i, hi, by simp only [c15, not_true_eq_false, not_false_eq_true, false_iff, true_iff, Classical.not_not]; exact c25⟩ (fun a p1 p2 => (g1 a p1 p2).trans (f1 a p1 p2)) (fun k p => (g2 k p).trans (f2 k p))
    · skip
      refine x_iconst (pc := 18) (v := 1) dX6_leavesAlone_18 (by decide) ?_
      refine x_goto (pc := 19) (tgt := 23) dX6_leavesAlone_19 (by decide) ?_
      refine x_iload_n (pc := 23) dX6_leavesAlone_23 rfl rfl ?_
      refine x_iload_n (pc := 24) dX6_leavesAlone_24 rfl rfl ?_
      refine x_icmpn_ne (pc := 25) (tgt := 32) (a := i) (b := x) dX6_leavesAlone_25 (by decide) (by omega) (by omega) (fun c25 => ?_) (fun c25 => ?_)
      · skip
        refine x_iconst (pc := 32) (v := 0) dX6_leavesAlone_32 (by decide) ?_
        refine x_icmp_eq_f (pc := 33) (tgt := 38) dX6_leavesAlone_33 (by decide) (by decide) ?_
        refine x_iconst (pc := 36) (v := 0) dX6_leavesAlone_36 (by decide) ?_
        refine x_ireturn (pc := 37) dX6_leavesAlone_37 ⟨_, rfl, by decide⟩ ⟨Nat.le_refl _, Nat.le_refl _⟩ ?_
        exact K2 _ ⟨i, hi, by simp only [c15, not_true_eq_false, not_false_eq_true, false_iff, true_iff, Classical.not_not]; exact c25⟩ (fun a p1 p2 => (g1 a p1 p2).trans (f1 a p1 p2)) (fun k p => (g2 k p).trans (f2 k p))
      · skip
        refine x_iconst (pc := 28) (v := 1) dX6_leavesAlone_28 (by decide) ?_
        refine x_goto (pc := 29) (tgt := 33) dX6_leavesAlone_29 (by decide) ?_
        refine x_icmp_eq_t (pc := 33) (tgt := 38) dX6_leavesAlone_33 (by decide) (by decide) ?_
        refine x_iinc (pc := 38) (v := nI (i + 1)) (lv' := [(0, .ref b), (1, .int (nI x)), (2, .int (nI (i + 1)))]) dX6_leavesAlone_38 rfl (nI_1 _) (by decide) rfl ?_
        refine x_goto (pc := 41) (tgt := 2) dX6_leavesAlone_41 (by decide) ?_
        exact ih (i + 1) (by omega) I2 h2 (fun a p1 p2 => (g1 a p1 p2).trans (f1 a p1 p2)) (fun k p => (g2 k p).trans (f2 k p)) (fun j hj9 => (Nat.lt_succ_iff_lt_or_eq.mp hj9).elim (hno j) (fun e9 => by subst e9; simp only [c15, not_true_eq_false, not_false_eq_true, false_iff, true_iff]; exact c25))

set_option maxHeartbeats 4000000 in
set_option maxRecDepth 100000 in
theorem c_leavesAlone {T : xT} {n : Nat} {sh : Nat → Nat × Nat} {I : xI} {R : xR} {L : xL} {P : xPost} {b nb ta te lo : Nat} {ki ve ce sto hu : Nat → Nat} {LN : xLN} {x : Nat} (hx : x < 6) (h : SC sh R I b nb ki ve ce sto hu ta te lo LN) (K1 : ∀ I2 : xI, (∀ i, i < nb → (¬ (deedN nb ki ve ce sto hu ta te lo LN i).1 = 0 ↔ i = x)) → (∀ a, a ≠ b + 17 → a ≠ b → I2 a = I a) → (∀ k, k ≠ 14 → I2 b k = I b k) → P (n, sh, 0, 0) I2 R L (some (.int 1))) (K2 : ∀ I2 : xI, (∃ i, i < nb ∧ ¬ (¬ (deedN nb ki ve ce sto hu ta te lo LN i).1 = 0 ↔ i = x)) → (∀ a, a ≠ b + 17 → a ≠ b → I2 a = I a) → (∀ k, k ≠ 14 → I2 b k = I b k) → P (n, sh, 0, 0) I2 R L (some (.int 0))) : XM T zX6_leavesAlone 5 [.ref b, .int (nI x)] n sh I R L P := by
  refine x_iconst (pc := 0) (v := 0) dX6_leavesAlone_0 (by decide) ?_
  refine x_istore_n (pc := 1) (lv' := [(0, .ref b), (1, .int (nI x)), (2, .int 0)]) dX6_leavesAlone_1 rfl (by decide) rfl ?_
  exact l_leavesAlone hx h K1 K2 nb 0 (by omega) I h (fun _ _ _ => rfl) (fun _ _ => rfl) (fun j hj => absurd hj (by omega))

set_option maxHeartbeats 4000000 in
set_option maxRecDepth 100000 in
theorem l_allSit {T : xT} {n : Nat} {sh : Nat → Nat × Nat} {I : xI} {R : xR} {L : xL} {P : xPost} {b nb ta te lo : Nat} {ki ve ce sto hu : Nat → Nat} {LN : xLN} (h : SC sh R I b nb ki ve ce sto hu ta te lo LN) (K1 : (∀ i, i < nb → ce i = sto i) → P (n, sh, 0, 0) I R L (some (.int 1))) (K2 : (∃ i, i < nb ∧ ¬ ce i = sto i) → P (n, sh, 0, 0) I R L (some (.int 0))) : ∀ (w i : Nat), i + w = nb → (∀ j, j < i → ce j = sto j) → X T zX6_allSit 2 0 0 P 2 [(0, .ref b), (1, .int (nI i))] [] (n, sh, 0, 0) (I) R L := by
  have hS := h.1
  have hn6 := h.2.1
  obtain ⟨s0, sl, rl, f0, f1, f2, f3, f4, f5, f6, f7, w0, w1, w2, w3, w4, w5, w6, w7⟩ := hS
  intro w
  induction w with
  | zero =>
    intro i hw hno
    have hz : i = nb := by omega
    refine x_iload_n (pc := 2) dX6_allSit_2 rfl rfl ?_
    refine x_aload_n (pc := 3) dX6_allSit_3 rfl rfl ?_
    refine x_callV (pc := 4) (As := []) dX6_allSit_4 km_X6_size kv_X6_size kl_RX6_71 s0 rfl rfl (by decide) ⟨Nat.le_refl _, Nat.le_refl _⟩ rfl (Nat.le_of_ble_eq_true rfl) (Nat.le_of_ble_eq_true rfl) (c_size h.1 h.2.2.2.2.1 h.2.1 (⟨rfl, rfl, ?_⟩))
    refine x_icmpn_ge_t (pc := 7) (tgt := 26) (a := i) (b := nb) dX6_allSit_7 (by decide) (by omega) (by omega) (by omega) ?_
    refine x_iconst (pc := 26) (v := 1) dX6_allSit_26 (by decide) ?_
    refine x_ireturn (pc := 27) dX6_allSit_27 ⟨_, rfl, by decide⟩ ⟨Nat.le_refl _, Nat.le_refl _⟩ ?_
    exact K1 (fun j hj9 => hno j (by omega))
  | succ w ih =>
    intro i hw hno
    have hi : i < nb := by omega
    refine x_iload_n (pc := 2) dX6_allSit_2 rfl rfl ?_
    refine x_aload_n (pc := 3) dX6_allSit_3 rfl rfl ?_
    refine x_callV (pc := 4) (As := []) dX6_allSit_4 km_X6_size kv_X6_size kl_RX6_71 s0 rfl rfl (by decide) ⟨Nat.le_refl _, Nat.le_refl _⟩ rfl (Nat.le_of_ble_eq_true rfl) (Nat.le_of_ble_eq_true rfl) (c_size h.1 h.2.2.2.2.1 h.2.1 (⟨rfl, rfl, ?_⟩))
    refine x_icmpn_ge_f (pc := 7) (tgt := 26) (a := i) (b := nb) dX6_allSit_7 (by decide) (by omega) (by omega) (by omega) ?_
    refine x_aload_n (pc := 10) dX6_allSit_10 rfl rfl ?_
    refine x_iload_n (pc := 11) dX6_allSit_11 rfl rfl ?_
    refine x_callV (pc := 12) (As := [.int _]) dX6_allSit_12 km_X6_isSeated kv_X6_isSeated kl_RX6_96 s0 rfl rfl (by decide) ⟨Nat.le_refl _, Nat.le_refl _⟩ rfl (Nat.le_of_ble_eq_true rfl) (Nat.le_of_ble_eq_true rfl) (c_isSeated h.1 h.2.2.2.2.1 h.2.2.2.2.2.1 hn6 (fun j hj => (h.2.2.2.2.2.2.2.1 j hj).2.2.1) (fun j hj => (h.2.2.2.2.2.2.2.1 j hj).2.2.2.1) hi (fun hy => ⟨rfl, rfl, ?_⟩) (fun hn => ⟨rfl, rfl, ?_⟩))
    · skip
      refine x_if_ne_t (pc := 15) (tgt := 20) dX6_allSit_15 (by decide) (by decide) ?_
      refine x_iinc (pc := 20) (v := nI (i + 1)) (lv' := [(0, .ref b), (1, .int (nI (i + 1)))]) dX6_allSit_20 rfl (nI_1 _) (by decide) rfl ?_
      refine x_goto (pc := 23) (tgt := 2) dX6_allSit_23 (by decide) ?_
      exact ih (i + 1) (by omega) (fun j hj9 => (Nat.lt_succ_iff_lt_or_eq.mp hj9).elim (hno j) (fun e9 => by subst e9; exact hy))
    · skip
      refine x_if_ne_f (pc := 15) (tgt := 20) dX6_allSit_15 (by decide) (by decide) ?_
      refine x_iconst (pc := 18) (v := 0) dX6_allSit_18 (by decide) ?_
      refine x_ireturn (pc := 19) dX6_allSit_19 ⟨_, rfl, by decide⟩ ⟨Nat.le_refl _, Nat.le_refl _⟩ ?_
      exact K2 ⟨i, hi, hn⟩

set_option maxHeartbeats 4000000 in
set_option maxRecDepth 100000 in
theorem c_allSit {T : xT} {n : Nat} {sh : Nat → Nat × Nat} {I : xI} {R : xR} {L : xL} {P : xPost} {b nb ta te lo : Nat} {ki ve ce sto hu : Nat → Nat} {LN : xLN} (h : SC sh R I b nb ki ve ce sto hu ta te lo LN) (K1 : (∀ i, i < nb → ce i = sto i) → P (n, sh, 0, 0) I R L (some (.int 1))) (K2 : (∃ i, i < nb ∧ ¬ ce i = sto i) → P (n, sh, 0, 0) I R L (some (.int 0))) : XM T zX6_allSit 2 [.ref b] n sh I R L P := by
  refine x_iconst (pc := 0) (v := 0) dX6_allSit_0 (by decide) ?_
  refine x_istore_n (pc := 1) (lv' := [(0, .ref b), (1, .int 0)]) dX6_allSit_1 rfl (by decide) rfl ?_
  exact l_allSit h K1 K2 nb 0 (by omega) (fun j hj => absurd hj (by omega))

