/-! ===== set, enemies ===== -/
theorem FSC.setV {I : xI} {b j i x : Nat} {V : xV} (h : FSC I b V) (hj : j < 8) : FSC (up2 I (b + 2 + 2 * j) i (nI x)) b (up2 V j i x) := by
  obtain ⟨h1, h2, h3, h4, h5⟩ := h
  have e8 : up2 V j i x 8 = V 8 := up2_row (by omega)
  have g : up2 I (b + 2 + 2 * j) i (nI x) b = I b := up2_row (by omega)
  refine ⟨fun t ht => ?_, by rw [g, e8]; exact h2, by rw [g, e8]; exact h3, by rw [g, e8]; exact h4, by rw [g]; exact h5⟩
  have e1 : vsz (up2 V j i x) t = vsz V t := by
    unfold vsz
    rw [e8]
  rw [e1, up2_row (show b + 1 + 2 * t ≠ b + 2 + 2 * j by omega)]
  refine ⟨(h1 t ht).1, fun k hk => ?_⟩
  by_cases e : t = j
  · subst e
    by_cases q : k = i
    · rw [q, up2_s, up2_s]
    · rw [up2_k q, up2_k q]
      exact (h1 t ht).2 k hk
  · rw [up2_row (show b + 2 + 2 * t ≠ b + 2 + 2 * j by omega), up2_row e]
    exact (h1 t ht).2 k hk
theorem MDV.setV {I : xI} {M j i x : Nat} {V : xV} (h : MDV I M V) (hj : j < 6) : MDV (up2 I (M + 1 + j) i (nI x)) M (up2 V j i x) := by
  obtain ⟨h1, h2, h3, h4, h5, h6, h7, h8, h9, h10⟩ := h
  have e8 : up2 V j i x 8 = V 8 := up2_row (by omega)
  have e6 : up2 V j i x 6 = V 6 := up2_row (by omega)
  have e7 : up2 V j i x 7 = V 7 := up2_row (by omega)
  have g : ∀ a, a ≠ M + 1 + j → up2 I (M + 1 + j) i (nI x) a = I a := fun a ha => up2_row ha
  unfold MDV
  rw [e8, e6, e7, g M (by omega), g (M + 19) (by omega), g (M + 26) (by omega)]
  refine ⟨h1, h2, h3, h4, h5, h6, h7, fun t ht k hk => ?_, h9, h10⟩
  by_cases e : t = j
  · subst e
    by_cases q : k = i
    · rw [q, up2_s, up2_s]
    · rw [up2_k q, up2_k q]
      exact h8 t ht k hk
  · rw [g _ (by omega), up2_row e]
    exact h8 t ht k hk
/-- set -/
def stHeld (V : xV) (b c : Nat) : Bool := (List.range (V 8 0)).any (fun i => !(i == b) && V 3 i == c)
theorem stHeld_t {V : xV} {b c : Nat} : stHeld V b c = true ↔ ∃ i, i < V 8 0 ∧ ¬ i = b ∧ V 3 i = c := by
  unfold stHeld
  simp [List.any_eq_true]
theorem stHeld_f {V : xV} {b c : Nat} (h : ∀ i, i < V 8 0 → ¬ i = b → ¬ V 3 i = c) : stHeld V b c = false := by
  cases e : stHeld V b c with
  | false => rfl
  | true =>
    obtain ⟨i, h1, h2, h3⟩ := stHeld_t.mp e
    exact absurd h3 (h i h1 h2)
def spSet (V : xV) (x y z : Int32) : Int32 × xV := match idx (V 8 0) x with
  | none => (-1, V)
  | some b => if y = 0 then (match idx 36 z with
    | none => (-2, V)
    | some c => if stHeld V b c = true then (-3, V) else (nI (V 3 b), up2 V 3 b c)) else if y = 1 then (match idx 10 z with
    | none => (-2, V)
    | some c => (nI (V 4 b), up2 V 4 b c)) else (-1, V)
theorem spSet_n {V : xV} {x y z : Int32} (h : x < 0 ∨ nI (V 8 0) ≤ x) : spSet V x y z = (-1, V) := by
  unfold spSet
  rw [idx_n h]
theorem i01 {y : Int32} (h1 : ¬ y < 0) (h2 : ¬ 1 < y) : y = 0 ∨ y = 1 := by
  obtain ⟨k, hk, rfl⟩ := nI_of h1
  have : k ≤ 1 := by
    rcases Nat.lt_or_ge 1 k with q | q
    · exact absurd ((nI_ltI (a := 1) (by decide) hk).mpr q) h2
    · exact q
  rcases Nat.le_one_iff_eq_zero_or_eq_one.mp this with rfl | rfl
  · exact Or.inl rfl
  · exact Or.inr rfl
theorem i01n {y : Int32} (h : y < 0 ∨ 1 < y) : ¬ y = 0 ∧ ¬ y = 1 := by
  refine ⟨fun q => ?_, fun q => ?_⟩ <;> subst q <;> rcases h with h | h <;> exact absurd h (by decide)
theorem spSet_y {V : xV} {x y z : Int32} (h : y < 0 ∨ 1 < y) : spSet V x y z = (-1, V) := by
  obtain ⟨p, q⟩ := i01n h
  unfold spSet
  cases idx (V 8 0) x with
  | none => rfl
  | some b => exact (if_neg p).trans (if_neg q)
section SPSET
variable {V : xV} {b c : Nat} {z : Int32} (hb : b < V 8 0) (h6 : V 8 0 ≤ 6)
theorem spSet_0n (hb : b < V 8 0) (h6 : V 8 0 ≤ 6) (h : idx 36 z = none) : spSet V (nI b) 0 z = (-2, V) := by
  unfold spSet
  rw [idx_s hb (by omega)]
  refine (if_pos rfl).trans ?_
  rw [h]
theorem spSet_0h (hb : b < V 8 0) (h6 : V 8 0 ≤ 6) (hc : c < 36) (h : stHeld V b c = true) : spSet V (nI b) 0 (nI c) = (-3, V) := by
  unfold spSet
  rw [idx_s hb (by omega)]
  refine (if_pos rfl).trans ?_
  rw [idx_s hc (by decide)]
  exact if_pos h
theorem spSet_0s (hb : b < V 8 0) (h6 : V 8 0 ≤ 6) (hc : c < 36) (h : stHeld V b c = false) : spSet V (nI b) 0 (nI c) = (nI (V 3 b), up2 V 3 b c) := by
  unfold spSet
  rw [idx_s hb (by omega)]
  refine (if_pos rfl).trans ?_
  rw [idx_s hc (by decide)]
  exact if_neg (by rw [h]; decide)
theorem spSet_1n (hb : b < V 8 0) (h6 : V 8 0 ≤ 6) (h : idx 10 z = none) : spSet V (nI b) 1 z = (-2, V) := by
  unfold spSet
  rw [idx_s hb (by omega)]
  refine (if_neg (by decide)).trans ((if_pos rfl).trans ?_)
  rw [h]
theorem spSet_1s (hb : b < V 8 0) (h6 : V 8 0 ≤ 6) (hc : c < 10) : spSet V (nI b) 1 (nI c) = (nI (V 4 b), up2 V 4 b c) := by
  unfold spSet
  rw [idx_s hb (by omega)]
  refine (if_neg (by decide)).trans ((if_pos rfl).trans ?_)
  rw [idx_s hc (by decide)]
end SPSET
theorem dig_n {x : Int32} (h : x < 0 ∨ (9 : Int32) < x) : idx 10 x = none := idx_n (h.imp id (fun h => le_of_lt1 (n := 9) (by decide) h))
theorem dig_k {x : Int32} (h1 : ¬ x < 0) (h2 : ¬ 9 < x) : ∃ k : Nat, k < 10 ∧ x = nI k := by
  obtain ⟨j, hj, rfl⟩ := nI_of h1
  refine ⟨j, ?_, rfl⟩
  rcases Nat.lt_or_ge j 10 with h | h
  · exact h
  · exact absurd ((nI_ltI (a := 9) (by decide) hj).mpr (by omega)) h2
theorem VOK.set3 {V : xV} {B b c : Nat} (h : VOK V B) (hc : c < 36) (hs : stHeld V b c = false) : VOK (up2 V 3 b c) B := by
  obtain ⟨v6, v12, v10, vb, vf, vw, vm, vta, vte, vod, vrg, vdi⟩ := h
  have r : ∀ j, j ≠ 3 → up2 V 3 b c j = V j := fun j hj => up2_row hj
  have q : ∀ i, i < V 8 0 → (i = b → up2 V 3 b c 3 i = c) ∧ (¬ i = b → up2 V 3 b c 3 i = V 3 i) := fun i hi => ⟨fun e => by rw [e, up2_s], fun e => up2_k e⟩
  have nh : ∀ i, i < V 8 0 → ¬ i = b → ¬ V 3 i = c := fun i hi e e2 => by
    have := stHeld_t.mpr ⟨i, hi, e, e2⟩
    rw [hs] at this
    cases this
  unfold VOK
  rw [r 8 (by decide), r 0 (by decide), r 1 (by decide), r 2 (by decide), r 4 (by decide), r 5 (by decide), r 6 (by decide), r 7 (by decide)]
  refine ⟨v6, v12, v10, fun i hi => ?_, vf, vw, vm, vta, vte, vod, vrg, fun i j hi hj e => ?_⟩
  · obtain ⟨a1, a2, a3, a4, a5⟩ := vb i hi
    refine ⟨a1, a2, a3, ?_, a5⟩
    by_cases e : i = b
    · rw [(q i hi).1 e]; exact hc
    · rw [(q i hi).2 e]; exact a4
  · by_cases e1 : i = b
    · by_cases e2 : j = b
      · rw [e1, e2]
      · rw [(q i hi).1 e1, (q j hj).2 e2] at e
        exact absurd e.symm (nh j hj e2)
    · by_cases e2 : j = b
      · rw [(q i hi).2 e1, (q j hj).1 e2] at e
        exact absurd e (nh i hi e1)
      · rw [(q i hi).2 e1, (q j hj).2 e2] at e
        exact vdi i j hi hj e
theorem VOK.set4 {V : xV} {B b c : Nat} (h : VOK V B) (hc : c < 10) : VOK (up2 V 4 b c) B := by
  obtain ⟨v6, v12, v10, vb, vf, vw, vm, vta, vte, vod, vrg, vdi⟩ := h
  have r : ∀ j, j ≠ 4 → up2 V 4 b c j = V j := fun j hj => up2_row hj
  unfold VOK
  rw [r 8 (by decide), r 0 (by decide), r 1 (by decide), r 2 (by decide), r 3 (by decide), r 5 (by decide), r 6 (by decide), r 7 (by decide)]
  refine ⟨v6, v12, v10, fun i hi => ?_, vf, vw, vm, vta, vte, vod, vrg, vdi⟩
  obtain ⟨a1, a2, a3, a4, a5⟩ := vb i hi
  refine ⟨a1, a2, a3, a4, ?_⟩
  by_cases e : i = b
  · rw [e, up2_s]; exact hc
  · rw [up2_k e]; exact a5

set_option maxHeartbeats 4000000 in
set_option maxRecDepth 100000 in
theorem l_set0 {T : xT} {n : Nat} {sh : Nat → Nat × Nat} {I : xI} {R : xR} {L : xL} {P : xPost} {lr nw im tr rd hu se ac M : Nat} (hG : GEO sh R lr nw im tr rd hu se ac M) {V : xV} {B : Nat} (h : FSC I nw V) (hv : VOK V B) {k : Nat} {z : Int32} (hk : k < V 8 0) (K : ∀ I2 : xI, FSC I2 nw (spSet V (nI k) 0 z).2 → (∀ a, (a < nw ∨ nw + 17 ≤ a) → I2 a = I a) → P (n, sh, 0, 0) I2 R L (some (.int (spSet V (nI k) 0 z).1)))  :  X T zX9_set 3 0 0 P 22 [(0, .ref lr), (1, .int (nI k)), (2, .int 0), (3, .int z)] [] (n, sh, 0, 0) (I) R L := by
  obtain ⟨v6, v12, v10, vb, vf, vw, vm, vta, vte, vod, vrg, vdi⟩ := id hv
  have r0 : bRow I (nw + 1) (V 8 0) (V 0) := h.row 0 (by decide)
  have r1 : bRow I (nw + 3) (V 8 0) (V 1) := h.row 1 (by decide)
  have r2 : bRow I (nw + 5) (V 8 0) (V 2) := h.row 2 (by decide)
  have r3 : bRow I (nw + 7) (V 8 0) (V 3) := h.row 3 (by decide)
  have r4 : bRow I (nw + 9) (V 8 0) (V 4) := h.row 4 (by decide)
  have r5 : bRow I (nw + 11) (V 8 0) (V 5) := h.row 5 (by decide)
  have r6 : bRow I (nw + 13) (V 8 4) (V 6) := h.row 6 (by decide)
  have r7 : bRow I (nw + 15) (V 8 5) (V 7) := h.row 7 (by decide)
  have a3 := (vb k hk).2.2.2.1
  have a4 := (vb k hk).2.2.2.2
  refine x_iload_n (pc := 22) dX9_set_22 rfl rfl ?_
  refine x_iconst (pc := 23) (v := 0) dX9_set_23 (by decide) ?_
  refine x_iload_n (pc := 24) dX9_set_24 rfl rfl ?_
  refine x_if_ne_f (pc := 25) (tgt := 33) dX9_set_25 (by decide) (by decide) ?_
  refine x_bipush (pc := 28) (v := 35) dX9_set_28 (by decide) ?_
  refine x_goto (pc := 30) (tgt := 35) dX9_set_30 (by decide) ?_
  refine x_callS (pc := 35) (As := [.int _, .int _, .int _]) dX9_set_35 km_X9_isWithin ks_X9_isWithin kl_RX9_81 rfl (by decide) ⟨Nat.le_refl _, Nat.le_refl _⟩ rfl (Nat.le_of_ble_eq_true rfl) (Nat.le_of_ble_eq_true rfl) (c_isWithin (fun p1 p2 => ⟨rfl, rfl, ?_⟩) (fun p1 => ⟨rfl, rfl, ?_⟩))
  · skip
    obtain ⟨c, hc, ec⟩ := c_isCell_k p1 p2
    subst ec
    refine x_if_ne_t (pc := 38) (tgt := 44) dX9_set_38 (by decide) (by decide) ?_
    refine x_iload_n (pc := 44) dX9_set_44 rfl rfl ?_
    refine x_if_ne_f (pc := 45) (tgt := 58) dX9_set_45 (by decide) (by decide) ?_
    refine x_aload_n (pc := 48) dX9_set_48 rfl rfl ?_
    refine x_getr (pc := 49) dX9_set_49 kf_RX9_12 hG.g_x rfl hG.g_f0 ?_
    refine x_getr (pc := 52) dX9_set_52 kf_RX9_121 hG.g_nw.1 rfl hG.g_nw.2.2.2.2.2.2.1 ?_
    refine x_goto (pc := 55) (tgt := 65) dX9_set_55 (by decide) ?_
    refine x_astore (pc := 65) (lv' := [(0, .ref lr), (1, .int (nI k)), (2, .int 0), (3, .int (nI c)), (4, .ref (nw + 7))]) dX9_set_65 (by decide) rfl ?_
    refine x_aload (pc := 67) dX9_set_67 rfl ?_
    refine x_iload_n (pc := 69) dX9_set_69 rfl rfl ?_
    refine x_callV (pc := 70) (As := [.int _]) dX9_set_70 km_X5_at kv_X5_at kl_RX9_109 hG.g_nw.2.2.2.2.2.2.2.2.2.2.2.2.2.2.1.1 rfl rfl (by decide) ⟨Nat.le_refl _, Nat.le_refl _⟩ rfl (Nat.le_of_ble_eq_true rfl) (Nat.le_of_ble_eq_true rfl) (c_at (hG.g_nw.2.2.2.2.2.2.2.2.2.2.2.2.2.2.1) (⟨rfl, rfl, ?_⟩))
    rw [show I (nw + 7) 1 = nI (V 8 0) from r3.1, rAt_in (m := V 8 0) hk v6 (by decide), show I (nw + 8) k = nI (V 3 k) from r3.2 k hk]
    refine x_istore (pc := 73) (lv' := [(0, .ref lr), (1, .int (nI k)), (2, .int 0), (3, .int (nI c)), (4, .ref (nw + 7)), (5, .int (nI (V 3 k)))]) dX9_set_73 (by decide) rfl ?_
    refine x_iload_n (pc := 75) dX9_set_75 rfl rfl ?_
    refine x_if_ne_f (pc := 76) (tgt := 99) dX9_set_76 (by decide) (by decide) ?_
    refine x_iload_n (pc := 79) dX9_set_79 rfl rfl ?_
    refine x_iload (pc := 80) dX9_set_80 rfl ?_
    refine x_icmpn_eq (pc := 82) (tgt := 99) (a := c) (b := (V 3 k)) dX9_set_82 (by decide) (by omega) (by omega) (fun c82 => ?_) (fun c82 => ?_)
    · skip
      refine x_aload (pc := 99) dX9_set_99 rfl ?_
      refine x_iload_n (pc := 101) dX9_set_101 rfl rfl ?_
      refine x_iload_n (pc := 102) dX9_set_102 rfl rfl ?_
      refine x_callV (pc := 103) (As := [.int _, .int _]) dX9_set_103 km_X5_put kv_X5_put kl_RX9_150 hG.g_nw.2.2.2.2.2.2.2.2.2.2.2.2.2.2.1.1 rfl rfl (by decide) ⟨Nat.le_refl _, Nat.le_refl _⟩ rfl (Nat.le_of_ble_eq_true rfl) (Nat.le_of_ble_eq_true rfl) (c_put (x := nI c) (hG.g_nw.2.2.2.2.2.2.2.2.2.2.2.2.2.2.1) r3.1 hk v6 (⟨rfl, rfl, ?_⟩))
      refine x_iload (pc := 106) dX9_set_106 rfl ?_
      refine x_ireturn (pc := 108) dX9_set_108 ⟨_, rfl, rfl⟩ ⟨Nat.le_refl _, Nat.le_refl _⟩ ?_
      have hs : stHeld V k c = false := stHeld_f (fun i9 i1 i2 i3 => by first | exact i2 (vdi i9 k i1 hk (by rw [i3]; exact c82)) | exact absurd (held_t.mpr ⟨i9, i1, i3⟩) (by rw [hf]; decide))
      have h9 := K _ (by rw [spSet_0s hk v6 hc hs]; exact h.setV (by decide)) (fun a ha => up2_row (by omega))
      rw [spSet_0s hk v6 hc hs] at h9
      exact h9
    · skip
      refine x_aload_n (pc := 85) dX9_set_85 rfl rfl ?_
      refine x_getr (pc := 86) dX9_set_86 kf_RX9_12 hG.g_x rfl hG.g_f0 ?_
      refine x_iload_n (pc := 89) dX9_set_89 rfl rfl ?_
      refine x_callV (pc := 90) (As := [.int _]) dX9_set_90 km_X6_isStool kv_X6_isStool kl_RX9_91 hG.g_nw.1 rfl rfl (by decide) ⟨Nat.le_refl _, Nat.le_refl _⟩ rfl (Nat.le_of_ble_eq_true rfl) (Nat.le_of_ble_eq_true rfl) (c_isStool (x := c) hG.g_nw r3 v6 (fun i hi => (vb i hi).2.2.2.1) hc (fun hh => ⟨rfl, rfl, ?_⟩) (fun hf => ⟨rfl, rfl, ?_⟩))
      · skip
        refine x_if_eq_f (pc := 93) (tgt := 99) dX9_set_93 (by decide) (by decide) ?_
        refine x_bipush (pc := 96) (v := -3) dX9_set_96 (by decide) ?_
        refine x_ireturn (pc := 98) dX9_set_98 ⟨_, rfl, rfl⟩ ⟨Nat.le_refl _, Nat.le_refl _⟩ ?_
        obtain ⟨i9, i1, i2⟩ := held_t.mp hh
        have hs : stHeld V k c = true := stHeld_t.mpr ⟨i9, i1, fun e => c82 (by rw [e] at i2; exact i2.symm), i2⟩
        have h9 := K I (by rw [spSet_0h hk v6 hc hs]; exact h) (fun _ _ => rfl)
        rw [spSet_0h hk v6 hc hs] at h9
        exact h9
      · skip
        refine x_if_eq_t (pc := 93) (tgt := 99) dX9_set_93 (by decide) (by decide) ?_
        refine x_aload (pc := 99) dX9_set_99 rfl ?_
        refine x_iload_n (pc := 101) dX9_set_101 rfl rfl ?_
        refine x_iload_n (pc := 102) dX9_set_102 rfl rfl ?_
        refine x_callV (pc := 103) (As := [.int _, .int _]) dX9_set_103 km_X5_put kv_X5_put kl_RX9_150 hG.g_nw.2.2.2.2.2.2.2.2.2.2.2.2.2.2.1.1 rfl rfl (by decide) ⟨Nat.le_refl _, Nat.le_refl _⟩ rfl (Nat.le_of_ble_eq_true rfl) (Nat.le_of_ble_eq_true rfl) (c_put (x := nI c) (hG.g_nw.2.2.2.2.2.2.2.2.2.2.2.2.2.2.1) r3.1 hk v6 (⟨rfl, rfl, ?_⟩))
        refine x_iload (pc := 106) dX9_set_106 rfl ?_
        refine x_ireturn (pc := 108) dX9_set_108 ⟨_, rfl, rfl⟩ ⟨Nat.le_refl _, Nat.le_refl _⟩ ?_
        have hs : stHeld V k c = false := stHeld_f (fun i9 i1 i2 i3 => by first | exact i2 (vdi i9 k i1 hk (by rw [i3]; exact c82)) | exact absurd (held_t.mpr ⟨i9, i1, i3⟩) (by rw [hf]; decide))
        have h9 := K _ (by rw [spSet_0s hk v6 hc hs]; exact h.setV (by decide)) (fun a ha => up2_row (by omega))
        rw [spSet_0s hk v6 hc hs] at h9
        exact h9
  · skip
    refine x_if_ne_f (pc := 38) (tgt := 44) dX9_set_38 (by decide) (by decide) ?_
    refine x_bipush (pc := 41) (v := -2) dX9_set_41 (by decide) ?_
    refine x_ireturn (pc := 43) dX9_set_43 ⟨_, rfl, rfl⟩ ⟨Nat.le_refl _, Nat.le_refl _⟩ ?_
    have h9 := K I (by rw [spSet_0n hk v6 (cell_n p1)]; exact h) (fun _ _ => rfl)
    rw [spSet_0n hk v6 (cell_n p1)] at h9
    exact h9

set_option maxHeartbeats 4000000 in
set_option maxRecDepth 100000 in
theorem l_set1 {T : xT} {n : Nat} {sh : Nat → Nat × Nat} {I : xI} {R : xR} {L : xL} {P : xPost} {lr nw im tr rd hu se ac M : Nat} (hG : GEO sh R lr nw im tr rd hu se ac M) {V : xV} {B : Nat} (h : FSC I nw V) (hv : VOK V B) {k : Nat} {z : Int32} (hk : k < V 8 0) (K : ∀ I2 : xI, FSC I2 nw (spSet V (nI k) 1 z).2 → (∀ a, (a < nw ∨ nw + 17 ≤ a) → I2 a = I a) → P (n, sh, 0, 0) I2 R L (some (.int (spSet V (nI k) 1 z).1)))  :  X T zX9_set 3 0 0 P 22 [(0, .ref lr), (1, .int (nI k)), (2, .int 1), (3, .int z)] [] (n, sh, 0, 0) (I) R L := by
  obtain ⟨v6, v12, v10, vb, vf, vw, vm, vta, vte, vod, vrg, vdi⟩ := id hv
  have r0 : bRow I (nw + 1) (V 8 0) (V 0) := h.row 0 (by decide)
  have r1 : bRow I (nw + 3) (V 8 0) (V 1) := h.row 1 (by decide)
  have r2 : bRow I (nw + 5) (V 8 0) (V 2) := h.row 2 (by decide)
  have r3 : bRow I (nw + 7) (V 8 0) (V 3) := h.row 3 (by decide)
  have r4 : bRow I (nw + 9) (V 8 0) (V 4) := h.row 4 (by decide)
  have r5 : bRow I (nw + 11) (V 8 0) (V 5) := h.row 5 (by decide)
  have r6 : bRow I (nw + 13) (V 8 4) (V 6) := h.row 6 (by decide)
  have r7 : bRow I (nw + 15) (V 8 5) (V 7) := h.row 7 (by decide)
  have a3 := (vb k hk).2.2.2.1
  have a4 := (vb k hk).2.2.2.2
  refine x_iload_n (pc := 22) dX9_set_22 rfl rfl ?_
  refine x_iconst (pc := 23) (v := 0) dX9_set_23 (by decide) ?_
  refine x_iload_n (pc := 24) dX9_set_24 rfl rfl ?_
  refine x_if_ne_t (pc := 25) (tgt := 33) dX9_set_25 (by decide) (by decide) ?_
  refine x_bipush (pc := 33) (v := 9) dX9_set_33 (by decide) ?_
  refine x_callS (pc := 35) (As := [.int _, .int _, .int _]) dX9_set_35 km_X9_isWithin ks_X9_isWithin kl_RX9_81 rfl (by decide) ⟨Nat.le_refl _, Nat.le_refl _⟩ rfl (Nat.le_of_ble_eq_true rfl) (Nat.le_of_ble_eq_true rfl) (c_isWithin (fun p1 p2 => ⟨rfl, rfl, ?_⟩) (fun p1 => ⟨rfl, rfl, ?_⟩))
  · skip
    obtain ⟨c, hc, ec⟩ := dig_k p1 p2
    subst ec
    refine x_if_ne_t (pc := 38) (tgt := 44) dX9_set_38 (by decide) (by decide) ?_
    refine x_iload_n (pc := 44) dX9_set_44 rfl rfl ?_
    refine x_if_ne_t (pc := 45) (tgt := 58) dX9_set_45 (by decide) (by decide) ?_
    refine x_aload_n (pc := 58) dX9_set_58 rfl rfl ?_
    refine x_getr (pc := 59) dX9_set_59 kf_RX9_12 hG.g_x rfl hG.g_f0 ?_
    refine x_getr (pc := 62) dX9_set_62 kf_RX9_124 hG.g_nw.1 rfl hG.g_nw.2.2.2.2.2.2.2.1 ?_
    refine x_astore (pc := 65) (lv' := [(0, .ref lr), (1, .int (nI k)), (2, .int 1), (3, .int (nI c)), (4, .ref (nw + 9))]) dX9_set_65 (by decide) rfl ?_
    refine x_aload (pc := 67) dX9_set_67 rfl ?_
    refine x_iload_n (pc := 69) dX9_set_69 rfl rfl ?_
    refine x_callV (pc := 70) (As := [.int _]) dX9_set_70 km_X5_at kv_X5_at kl_RX9_109 hG.g_nw.2.2.2.2.2.2.2.2.2.2.2.2.2.2.2.1.1 rfl rfl (by decide) ⟨Nat.le_refl _, Nat.le_refl _⟩ rfl (Nat.le_of_ble_eq_true rfl) (Nat.le_of_ble_eq_true rfl) (c_at (hG.g_nw.2.2.2.2.2.2.2.2.2.2.2.2.2.2.2.1) (⟨rfl, rfl, ?_⟩))
    rw [show I (nw + 9) 1 = nI (V 8 0) from r4.1, rAt_in (m := V 8 0) hk v6 (by decide), show I (nw + 10) k = nI (V 4 k) from r4.2 k hk]
    refine x_istore (pc := 73) (lv' := [(0, .ref lr), (1, .int (nI k)), (2, .int 1), (3, .int (nI c)), (4, .ref (nw + 9)), (5, .int (nI (V 4 k)))]) dX9_set_73 (by decide) rfl ?_
    refine x_iload_n (pc := 75) dX9_set_75 rfl rfl ?_
    refine x_if_ne_t (pc := 76) (tgt := 99) dX9_set_76 (by decide) (by decide) ?_
    refine x_aload (pc := 99) dX9_set_99 rfl ?_
    refine x_iload_n (pc := 101) dX9_set_101 rfl rfl ?_
    refine x_iload_n (pc := 102) dX9_set_102 rfl rfl ?_
    refine x_callV (pc := 103) (As := [.int _, .int _]) dX9_set_103 km_X5_put kv_X5_put kl_RX9_150 hG.g_nw.2.2.2.2.2.2.2.2.2.2.2.2.2.2.2.1.1 rfl rfl (by decide) ⟨Nat.le_refl _, Nat.le_refl _⟩ rfl (Nat.le_of_ble_eq_true rfl) (Nat.le_of_ble_eq_true rfl) (c_put (x := nI c) (hG.g_nw.2.2.2.2.2.2.2.2.2.2.2.2.2.2.2.1) r4.1 hk v6 (⟨rfl, rfl, ?_⟩))
    refine x_iload (pc := 106) dX9_set_106 rfl ?_
    refine x_ireturn (pc := 108) dX9_set_108 ⟨_, rfl, rfl⟩ ⟨Nat.le_refl _, Nat.le_refl _⟩ ?_
    have h9 := K _ (by rw [spSet_1s hk v6 hc]; exact h.setV (by decide)) (fun a ha => up2_row (by omega))
    rw [spSet_1s hk v6 hc] at h9
    exact h9
  · skip
    refine x_if_ne_f (pc := 38) (tgt := 44) dX9_set_38 (by decide) (by decide) ?_
    refine x_bipush (pc := 41) (v := -2) dX9_set_41 (by decide) ?_
    refine x_ireturn (pc := 43) dX9_set_43 ⟨_, rfl, rfl⟩ ⟨Nat.le_refl _, Nat.le_refl _⟩ ?_
    have h9 := K I (by rw [spSet_1n hk v6 (dig_n p1)]; exact h) (fun _ _ => rfl)
    rw [spSet_1n hk v6 (dig_n p1)] at h9
    exact h9

set_option maxHeartbeats 4000000 in
set_option maxRecDepth 100000 in
theorem c_set {T : xT} {n : Nat} {sh : Nat → Nat × Nat} {I : xI} {R : xR} {L : xL} {P : xPost} {lr nw im tr rd hu se ac M : Nat} (hG : GEO sh R lr nw im tr rd hu se ac M) {V : xV} {B : Nat} (h : FSC I nw V) (hv : VOK V B) {x y z : Int32} (K : ∀ I2 : xI, FSC I2 nw (spSet V x y z).2 → (∀ a, (a < nw ∨ nw + 17 ≤ a) → I2 a = I a) → P (n, sh, 0, 0) I2 R L (some (.int (spSet V x y z).1)))  : XM T zX9_set 3 [.ref lr, .int x, .int y, .int z] n sh I R L P := by
  obtain ⟨v6, v12, v10, vb, vf, vw, vm, vta, vte, vod, vrg, vdi⟩ := id hv
  have r0 : bRow I (nw + 1) (V 8 0) (V 0) := h.row 0 (by decide)
  have r1 : bRow I (nw + 3) (V 8 0) (V 1) := h.row 1 (by decide)
  have r2 : bRow I (nw + 5) (V 8 0) (V 2) := h.row 2 (by decide)
  have r3 : bRow I (nw + 7) (V 8 0) (V 3) := h.row 3 (by decide)
  have r4 : bRow I (nw + 9) (V 8 0) (V 4) := h.row 4 (by decide)
  have r5 : bRow I (nw + 11) (V 8 0) (V 5) := h.row 5 (by decide)
  have r6 : bRow I (nw + 13) (V 8 4) (V 6) := h.row 6 (by decide)
  have r7 : bRow I (nw + 15) (V 8 5) (V 7) := h.row 7 (by decide)
  refine x_aload_n (pc := 0) dX9_set_0 rfl rfl ?_
  refine x_getr (pc := 1) dX9_set_1 kf_RX9_12 hG.g_x rfl hG.g_f0 ?_
  refine x_iload_n (pc := 4) dX9_set_4 rfl rfl ?_
  refine x_callV (pc := 5) (As := [.int _]) dX9_set_5 km_X6_isBeast kv_X6_isBeast kl_RX9_102 hG.g_nw.1 rfl rfl (by decide) ⟨Nat.le_refl _, Nat.le_refl _⟩ rfl (Nat.le_of_ble_eq_true rfl) (Nat.le_of_ble_eq_true rfl) (c_isBeast hG.g_nw r2 v6 (fun k hk ek => ⟨rfl, rfl, ?_⟩) (fun h1 => ⟨rfl, rfl, ?_⟩))
  · skip
    have hk : k < V 8 0 := hk
    subst ek
    have a3 := (vb k hk).2.2.2.1
    have a4 := (vb k hk).2.2.2.2
    refine x_if_eq_f (pc := 8) (tgt := 20) dX9_set_8 (by decide) (by decide) ?_
    refine x_iload_n (pc := 11) dX9_set_11 rfl rfl ?_
    refine x_iconst (pc := 12) (v := 0) dX9_set_12 (by decide) ?_
    refine x_iconst (pc := 13) (v := 1) dX9_set_13 (by decide) ?_
    refine x_callS (pc := 14) (As := [.int _, .int _, .int _]) dX9_set_14 km_X9_isWithin ks_X9_isWithin kl_RX9_81 rfl (by decide) ⟨Nat.le_refl _, Nat.le_refl _⟩ rfl (Nat.le_of_ble_eq_true rfl) (Nat.le_of_ble_eq_true rfl) (c_isWithin (fun g1 g2 => ⟨rfl, rfl, ?_⟩) (fun g1 => ⟨rfl, rfl, ?_⟩))
    · skip
      refine x_if_ne_t (pc := 17) (tgt := 22) dX9_set_17 (by decide) (by decide) ?_
      rcases i01 g1 g2 with rfl | rfl
      · exact l_set0 hG h hv hk K
      · exact l_set1 hG h hv hk K
    · skip
      refine x_if_ne_f (pc := 17) (tgt := 22) dX9_set_17 (by decide) (by decide) ?_
      refine x_iconst (pc := 20) (v := -1) dX9_set_20 (by decide) ?_
      refine x_ireturn (pc := 21) dX9_set_21 ⟨_, rfl, rfl⟩ ⟨Nat.le_refl _, Nat.le_refl _⟩ ?_
      have e9 : spSet V (nI k) y z = (-1, V) := by first | exact spSet_n h1 | exact spSet_y g1
      have h9 := K I (by rw [e9]; exact h) (fun _ _ => rfl)
      rw [e9] at h9
      exact h9
  · skip
    refine x_if_eq_t (pc := 8) (tgt := 20) dX9_set_8 (by decide) (by decide) ?_
    refine x_iconst (pc := 20) (v := -1) dX9_set_20 (by decide) ?_
    refine x_ireturn (pc := 21) dX9_set_21 ⟨_, rfl, rfl⟩ ⟨Nat.le_refl _, Nat.le_refl _⟩ ?_
    have e9 : spSet V (x) y z = (-1, V) := by first | exact spSet_n h1 | exact spSet_y g1
    have h9 := K I (by rw [e9]; exact h) (fun _ _ => rfl)
    rw [e9] at h9
    exact h9

set_option maxHeartbeats 4000000 in
set_option maxRecDepth 100000 in
theorem lm_set0 {T : xT} {n : Nat} {sh : Nat → Nat × Nat} {I : xI} {R : xR} {L : xL} {P : xPost} {M : Nat} (hM : xModel sh R M) {V : xV} {B : Nat} (h : MDV I M V) (hv : VOK V B) {k c : Nat} (hk : k < V 8 0) (hc : c < 36) (K : ∀ I2 : xI, MDV I2 M (spSet V (nI k) 0 (nI c)).2 → mdP M I I2 → P (n, sh, 0, 0) I2 R L (some (.int (spSet V (nI k) 0 (nI c)).1)))  : ∀ (w i : Nat), i + w = V 8 0 → (∀ j, j < i → ¬ j = k → ¬ V 3 j = c) → X T zX10_set 3 0 0 P 46 [(0, .ref M), (1, .int (nI k)), (2, .int 0), (3, .int (nI c)), (4, .int (nI i))] [] (n, sh, 0, 0) (I) R L := by
  obtain ⟨v6, v12, v10, vb, vf, vw, vm, vta, vte, vod, vrg, vdi⟩ := id hv
  intro w
  induction w with
  | zero =>
    intro i hw hno
    have hz : i = V 8 0 := by omega
    refine x_iload (pc := 46) dX10_set_46 rfl ?_
    refine x_aload_n (pc := 48) dX10_set_48 rfl rfl ?_
    refine x_get (pc := 49) dX10_set_49 kf_RX10_7 hM.s rfl ?_
    rw [h.1]
    refine x_icmpn_ge_t (pc := 52) (tgt := 85) (a := i) (b := (V 8 0)) dX10_set_52 (by decide) (by omega) (by omega) (by omega) ?_
    refine x_iload_n (pc := 85) dX10_set_85 rfl rfl ?_
    refine x_if_ne_f (pc := 86) (tgt := 98) dX10_set_86 (by decide) (by decide) ?_
    refine x_aload_n (pc := 89) dX10_set_89 rfl rfl ?_
    refine x_getr (pc := 90) dX10_set_90 kf_RX10_32 hM.s rfl hM.f3 ?_
    refine x_iload_n (pc := 93) dX10_set_93 rfl rfl ?_
    refine x_ialdn (pc := 94) (a := k) dX10_set_94 hM.s3 (by omega) (by omega) ?_
    rw [show I (M + 4) k = nI (V 3 k) from h.2.2.2.2.2.2.2.1 3 (by decide) k hk]
    refine x_goto (pc := 95) (tgt := 104) dX10_set_95 (by decide) ?_
    refine x_istore (pc := 104) (lv' := [(0, .ref M), (1, .int (nI k)), (2, .int 0), (3, .int (nI c)), (4, .int (nI (V 3 k)))]) dX10_set_104 (by decide) rfl ?_
    refine x_iload_n (pc := 106) dX10_set_106 rfl rfl ?_
    refine x_if_ne_f (pc := 107) (tgt := 120) dX10_set_107 (by decide) (by decide) ?_
    refine x_aload_n (pc := 110) dX10_set_110 rfl rfl ?_
    refine x_getr (pc := 111) dX10_set_111 kf_RX10_32 hM.s rfl hM.f3 ?_
    refine x_iload_n (pc := 114) dX10_set_114 rfl rfl ?_
    refine x_iload_n (pc := 115) dX10_set_115 rfl rfl ?_
    refine x_iastn (pc := 116) (a := k) dX10_set_116 hM.s3 (by omega) (by omega) ?_
    refine x_goto (pc := 117) (tgt := 127) dX10_set_117 (by decide) ?_
    refine x_iload (pc := 127) dX10_set_127 rfl ?_
    refine x_ireturn (pc := 129) dX10_set_129 ⟨_, rfl, rfl⟩ ⟨Nat.le_refl _, Nat.le_refl _⟩ ?_
    have hs : stHeld V k c = false := stHeld_f (fun i9 i1 i2 => hno i9 (by omega) i2)
    have h9 := K _ (by rw [spSet_0s hk v6 hc hs]; exact h.setV (j := 3) (by decide)) (mdP.arr (by omega))
    rw [spSet_0s hk v6 hc hs] at h9
    exact h9
  | succ w ih =>
    intro i hw hno
    have hi : i < V 8 0 := by omega
    refine x_iload (pc := 46) dX10_set_46 rfl ?_
    refine x_aload_n (pc := 48) dX10_set_48 rfl rfl ?_
    refine x_get (pc := 49) dX10_set_49 kf_RX10_7 hM.s rfl ?_
    rw [h.1]
    refine x_icmpn_ge_f (pc := 52) (tgt := 85) (a := i) (b := (V 8 0)) dX10_set_52 (by decide) (by omega) (by omega) (by omega) ?_
    refine x_iload_n (pc := 55) dX10_set_55 rfl rfl ?_
    refine x_if_ne_f (pc := 56) (tgt := 85) dX10_set_56 (by decide) (by decide) ?_
    refine x_iload (pc := 59) dX10_set_59 rfl ?_
    refine x_iload_n (pc := 61) dX10_set_61 rfl rfl ?_
    refine x_icmpn_eq (pc := 62) (tgt := 79) (a := i) (b := k) dX10_set_62 (by decide) (by omega) (by omega) (fun c62 => ?_) (fun c62 => ?_)
    · skip
      refine x_iinc (pc := 79) (v := nI (i + 1)) (lv' := [(0, .ref M), (1, .int (nI k)), (2, .int 0), (3, .int (nI c)), (4, .int (nI (i + 1)))]) dX10_set_79 rfl (nI_1 _) (by decide) rfl ?_
      refine x_goto (pc := 82) (tgt := 46) dX10_set_82 (by decide) ?_
      exact ih (i + 1) (by omega) (fun j hj9 p9 => (Nat.lt_succ_iff_lt_or_eq.mp hj9).elim (fun q => hno j q p9) (fun e9 => by subst e9; first | exact c73 | exact absurd c62 p9))
    · skip
      refine x_aload_n (pc := 65) dX10_set_65 rfl rfl ?_
      refine x_getr (pc := 66) dX10_set_66 kf_RX10_32 hM.s rfl hM.f3 ?_
      refine x_iload (pc := 69) dX10_set_69 rfl ?_
      refine x_ialdn (pc := 71) (a := i) dX10_set_71 hM.s3 (by omega) (by omega) ?_
      rw [show I (M + 4) i = nI (V 3 i) from h.2.2.2.2.2.2.2.1 3 (by decide) i hi]
      have ci := (vb i hi).2.2.2.1
      refine x_iload_n (pc := 72) dX10_set_72 rfl rfl ?_
      refine x_icmpn_ne (pc := 73) (tgt := 79) (a := (V 3 i)) (b := c) dX10_set_73 (by decide) (by omega) (by omega) (fun c73 => ?_) (fun c73 => ?_)
      · skip
        refine x_iinc (pc := 79) (v := nI (i + 1)) (lv' := [(0, .ref M), (1, .int (nI k)), (2, .int 0), (3, .int (nI c)), (4, .int (nI (i + 1)))]) dX10_set_79 rfl (nI_1 _) (by decide) rfl ?_
        refine x_goto (pc := 82) (tgt := 46) dX10_set_82 (by decide) ?_
        exact ih (i + 1) (by omega) (fun j hj9 p9 => (Nat.lt_succ_iff_lt_or_eq.mp hj9).elim (fun q => hno j q p9) (fun e9 => by subst e9; first | exact c73 | exact absurd c62 p9))
      · skip
        refine x_bipush (pc := 76) (v := -3) dX10_set_76 (by decide) ?_
        refine x_ireturn (pc := 78) dX10_set_78 ⟨_, rfl, rfl⟩ ⟨Nat.le_refl _, Nat.le_refl _⟩ ?_
        have hs : stHeld V k c = true := stHeld_t.mpr ⟨i, hi, c62, c73⟩
        have h9 := K I (by rw [spSet_0h hk v6 hc hs]; exact h) mdP.rf
        rw [spSet_0h hk v6 hc hs] at h9
        exact h9

set_option maxHeartbeats 4000000 in
set_option maxRecDepth 100000 in
theorem lm_sety0 {T : xT} {n : Nat} {sh : Nat → Nat × Nat} {I : xI} {R : xR} {L : xL} {P : xPost} {M : Nat} (hM : xModel sh R M) {V : xV} {B : Nat} (h : MDV I M V) (hv : VOK V B) {k : Nat} {z : Int32} (hk : k < V 8 0) (K : ∀ I2 : xI, MDV I2 M (spSet V (nI k) 0 z).2 → mdP M I I2 → P (n, sh, 0, 0) I2 R L (some (.int (spSet V (nI k) 0 z).1)))  :  X T zX10_set 3 0 0 P 20 [(0, .ref M), (1, .int (nI k)), (2, .int 0), (3, .int z)] [] (n, sh, 0, 0) (I) R L := by
  obtain ⟨v6, v12, v10, vb, vf, vw, vm, vta, vte, vod, vrg, vdi⟩ := id hv
  refine x_aload_n (pc := 20) dX10_set_20 rfl rfl ?_
  refine x_iload_n (pc := 21) dX10_set_21 rfl rfl ?_
  refine x_iconst (pc := 22) (v := 0) dX10_set_22 (by decide) ?_
  refine x_iload_n (pc := 23) dX10_set_23 rfl rfl ?_
  refine x_if_ne_f (pc := 24) (tgt := 32) dX10_set_24 (by decide) (by decide) ?_
  refine x_bipush (pc := 27) (v := 35) dX10_set_27 (by decide) ?_
  refine x_goto (pc := 29) (tgt := 34) dX10_set_29 (by decide) ?_
  refine x_callV (pc := 34) (As := [.int _, .int _, .int _]) dX10_set_34 km_X10_in kv_X10_in kl_RX10_231 hM.s rfl rfl (by decide) ⟨Nat.le_refl _, Nat.le_refl _⟩ rfl (Nat.le_of_ble_eq_true rfl) (Nat.le_of_ble_eq_true rfl) (m_in hM.s (fun p1 p2 => ⟨rfl, rfl, ?_⟩) (fun p1 => ⟨rfl, rfl, ?_⟩))
  · skip
    obtain ⟨c, hc, ec⟩ := c_isCell_k p1 p2
    subst ec
    refine x_if_ne_t (pc := 37) (tgt := 43) dX10_set_37 (by decide) (by decide) ?_
    refine x_iconst (pc := 43) (v := 0) dX10_set_43 (by decide) ?_
    refine x_istore (pc := 44) (lv' := [(0, .ref M), (1, .int (nI k)), (2, .int 0), (3, .int (nI c)), (4, .int 0)]) dX10_set_44 (by decide) rfl ?_
    exact lm_set0 hM h hv hk hc K (V 8 0) 0 (by omega) (fun j hj => absurd hj (by omega))
  · skip
    refine x_if_ne_f (pc := 37) (tgt := 43) dX10_set_37 (by decide) (by decide) ?_
    refine x_bipush (pc := 40) (v := -2) dX10_set_40 (by decide) ?_
    refine x_ireturn (pc := 42) dX10_set_42 ⟨_, rfl, rfl⟩ ⟨Nat.le_refl _, Nat.le_refl _⟩ ?_
    have h9 := K I (by rw [spSet_0n hk v6 (cell_n p1)]; exact h) mdP.rf
    rw [spSet_0n hk v6 (cell_n p1)] at h9
    exact h9

set_option maxHeartbeats 4000000 in
set_option maxRecDepth 100000 in
theorem lm_sety1 {T : xT} {n : Nat} {sh : Nat → Nat × Nat} {I : xI} {R : xR} {L : xL} {P : xPost} {M : Nat} (hM : xModel sh R M) {V : xV} {B : Nat} (h : MDV I M V) (hv : VOK V B) {k : Nat} {z : Int32} (hk : k < V 8 0) (K : ∀ I2 : xI, MDV I2 M (spSet V (nI k) 1 z).2 → mdP M I I2 → P (n, sh, 0, 0) I2 R L (some (.int (spSet V (nI k) 1 z).1)))  :  X T zX10_set 3 0 0 P 20 [(0, .ref M), (1, .int (nI k)), (2, .int 1), (3, .int z)] [] (n, sh, 0, 0) (I) R L := by
  obtain ⟨v6, v12, v10, vb, vf, vw, vm, vta, vte, vod, vrg, vdi⟩ := id hv
  refine x_aload_n (pc := 20) dX10_set_20 rfl rfl ?_
  refine x_iload_n (pc := 21) dX10_set_21 rfl rfl ?_
  refine x_iconst (pc := 22) (v := 0) dX10_set_22 (by decide) ?_
  refine x_iload_n (pc := 23) dX10_set_23 rfl rfl ?_
  refine x_if_ne_t (pc := 24) (tgt := 32) dX10_set_24 (by decide) (by decide) ?_
  refine x_bipush (pc := 32) (v := 9) dX10_set_32 (by decide) ?_
  refine x_callV (pc := 34) (As := [.int _, .int _, .int _]) dX10_set_34 km_X10_in kv_X10_in kl_RX10_231 hM.s rfl rfl (by decide) ⟨Nat.le_refl _, Nat.le_refl _⟩ rfl (Nat.le_of_ble_eq_true rfl) (Nat.le_of_ble_eq_true rfl) (m_in hM.s (fun p1 p2 => ⟨rfl, rfl, ?_⟩) (fun p1 => ⟨rfl, rfl, ?_⟩))
  · skip
    obtain ⟨c, hc, ec⟩ := dig_k p1 p2
    subst ec
    refine x_if_ne_t (pc := 37) (tgt := 43) dX10_set_37 (by decide) (by decide) ?_
    refine x_iconst (pc := 43) (v := 0) dX10_set_43 (by decide) ?_
    refine x_istore (pc := 44) (lv' := [(0, .ref M), (1, .int (nI k)), (2, .int 1), (3, .int (nI c)), (4, .int 0)]) dX10_set_44 (by decide) rfl ?_
    refine x_iload (pc := 46) dX10_set_46 rfl ?_
    refine x_aload_n (pc := 48) dX10_set_48 rfl rfl ?_
    refine x_get (pc := 49) dX10_set_49 kf_RX10_7 hM.s rfl ?_
    rw [h.1]
    refine x_icmpn_ge (pc := 52) (tgt := 85) (a := 0) (b := (V 8 0)) dX10_set_52 (by decide) (by decide) (by omega) (fun c52 => ?_) (fun c52 => ?_)
    · skip
      refine x_iload_n (pc := 85) dX10_set_85 rfl rfl ?_
      refine x_if_ne_t (pc := 86) (tgt := 98) dX10_set_86 (by decide) (by decide) ?_
      refine x_aload_n (pc := 98) dX10_set_98 rfl rfl ?_
      refine x_getr (pc := 99) dX10_set_99 kf_RX10_35 hM.s rfl hM.f4 ?_
      refine x_iload_n (pc := 102) dX10_set_102 rfl rfl ?_
      refine x_ialdn (pc := 103) (a := k) dX10_set_103 hM.s4 (by omega) (by omega) ?_
      rw [show I (M + 5) k = nI (V 4 k) from h.2.2.2.2.2.2.2.1 4 (by decide) k hk]
      refine x_istore (pc := 104) (lv' := [(0, .ref M), (1, .int (nI k)), (2, .int 1), (3, .int (nI c)), (4, .int (nI (V 4 k)))]) dX10_set_104 (by decide) rfl ?_
      refine x_iload_n (pc := 106) dX10_set_106 rfl rfl ?_
      refine x_if_ne_t (pc := 107) (tgt := 120) dX10_set_107 (by decide) (by decide) ?_
      refine x_aload_n (pc := 120) dX10_set_120 rfl rfl ?_
      refine x_getr (pc := 121) dX10_set_121 kf_RX10_35 hM.s rfl hM.f4 ?_
      refine x_iload_n (pc := 124) dX10_set_124 rfl rfl ?_
      refine x_iload_n (pc := 125) dX10_set_125 rfl rfl ?_
      refine x_iastn (pc := 126) (a := k) dX10_set_126 hM.s4 (by omega) (by omega) ?_
      refine x_iload (pc := 127) dX10_set_127 rfl ?_
      refine x_ireturn (pc := 129) dX10_set_129 ⟨_, rfl, rfl⟩ ⟨Nat.le_refl _, Nat.le_refl _⟩ ?_
      have h9 := K _ (by rw [spSet_1s hk v6 hc]; exact h.setV (j := 4) (by decide)) (mdP.arr (by omega))
      rw [spSet_1s hk v6 hc] at h9
      exact h9
    · skip
      refine x_iload_n (pc := 55) dX10_set_55 rfl rfl ?_
      refine x_if_ne_t (pc := 56) (tgt := 85) dX10_set_56 (by decide) (by decide) ?_
      refine x_iload_n (pc := 85) dX10_set_85 rfl rfl ?_
      refine x_if_ne_t (pc := 86) (tgt := 98) dX10_set_86 (by decide) (by decide) ?_
      refine x_aload_n (pc := 98) dX10_set_98 rfl rfl ?_
      refine x_getr (pc := 99) dX10_set_99 kf_RX10_35 hM.s rfl hM.f4 ?_
      refine x_iload_n (pc := 102) dX10_set_102 rfl rfl ?_
      refine x_ialdn (pc := 103) (a := k) dX10_set_103 hM.s4 (by omega) (by omega) ?_
      rw [show I (M + 5) k = nI (V 4 k) from h.2.2.2.2.2.2.2.1 4 (by decide) k hk]
      refine x_istore (pc := 104) (lv' := [(0, .ref M), (1, .int (nI k)), (2, .int 1), (3, .int (nI c)), (4, .int (nI (V 4 k)))]) dX10_set_104 (by decide) rfl ?_
      refine x_iload_n (pc := 106) dX10_set_106 rfl rfl ?_
      refine x_if_ne_t (pc := 107) (tgt := 120) dX10_set_107 (by decide) (by decide) ?_
      refine x_aload_n (pc := 120) dX10_set_120 rfl rfl ?_
      refine x_getr (pc := 121) dX10_set_121 kf_RX10_35 hM.s rfl hM.f4 ?_
      refine x_iload_n (pc := 124) dX10_set_124 rfl rfl ?_
      refine x_iload_n (pc := 125) dX10_set_125 rfl rfl ?_
      refine x_iastn (pc := 126) (a := k) dX10_set_126 hM.s4 (by omega) (by omega) ?_
      refine x_iload (pc := 127) dX10_set_127 rfl ?_
      refine x_ireturn (pc := 129) dX10_set_129 ⟨_, rfl, rfl⟩ ⟨Nat.le_refl _, Nat.le_refl _⟩ ?_
      have h9 := K _ (by rw [spSet_1s hk v6 hc]; exact h.setV (j := 4) (by decide)) (mdP.arr (by omega))
      rw [spSet_1s hk v6 hc] at h9
      exact h9
  · skip
    refine x_if_ne_f (pc := 37) (tgt := 43) dX10_set_37 (by decide) (by decide) ?_
    refine x_bipush (pc := 40) (v := -2) dX10_set_40 (by decide) ?_
    refine x_ireturn (pc := 42) dX10_set_42 ⟨_, rfl, rfl⟩ ⟨Nat.le_refl _, Nat.le_refl _⟩ ?_
    have h9 := K I (by rw [spSet_1n hk v6 (dig_n p1)]; exact h) mdP.rf
    rw [spSet_1n hk v6 (dig_n p1)] at h9
    exact h9

set_option maxHeartbeats 4000000 in
set_option maxRecDepth 100000 in
theorem m_set {T : xT} {n : Nat} {sh : Nat → Nat × Nat} {I : xI} {R : xR} {L : xL} {P : xPost} {M : Nat} (hM : xModel sh R M) {V : xV} {B : Nat} (h : MDV I M V) (hv : VOK V B) {x y z : Int32} (K : ∀ I2 : xI, MDV I2 M (spSet V x y z).2 → mdP M I I2 → P (n, sh, 0, 0) I2 R L (some (.int (spSet V x y z).1)))  : XM T zX10_set 3 [.ref M, .int x, .int y, .int z] n sh I R L P := by
  obtain ⟨v6, v12, v10, vb, vf, vw, vm, vta, vte, vod, vrg, vdi⟩ := id hv
  refine x_aload_n (pc := 0) dX10_set_0 rfl rfl ?_
  refine x_iload_n (pc := 1) dX10_set_1 rfl rfl ?_
  refine x_callV (pc := 2) (As := [.int _]) dX10_set_2 km_X10_isBeast kv_X10_isBeast kl_RX10_246 hM.s rfl rfl (by decide) ⟨Nat.le_refl _, Nat.le_refl _⟩ rfl (Nat.le_of_ble_eq_true rfl) (Nat.le_of_ble_eq_true rfl) (m_isBeast hM h.1 v6 (fun k hk ek => ⟨rfl, rfl, ?_⟩) (fun h1 => ⟨rfl, rfl, ?_⟩))
  · skip
    subst ek
    refine x_if_eq_f (pc := 5) (tgt := 18) dX10_set_5 (by decide) (by decide) ?_
    refine x_aload_n (pc := 8) dX10_set_8 rfl rfl ?_
    refine x_iload_n (pc := 9) dX10_set_9 rfl rfl ?_
    refine x_iconst (pc := 10) (v := 0) dX10_set_10 (by decide) ?_
    refine x_iconst (pc := 11) (v := 1) dX10_set_11 (by decide) ?_
    refine x_callV (pc := 12) (As := [.int _, .int _, .int _]) dX10_set_12 km_X10_in kv_X10_in kl_RX10_231 hM.s rfl rfl (by decide) ⟨Nat.le_refl _, Nat.le_refl _⟩ rfl (Nat.le_of_ble_eq_true rfl) (Nat.le_of_ble_eq_true rfl) (m_in hM.s (fun g1 g2 => ⟨rfl, rfl, ?_⟩) (fun g1 => ⟨rfl, rfl, ?_⟩))
    · skip
      refine x_if_ne_t (pc := 15) (tgt := 20) dX10_set_15 (by decide) (by decide) ?_
      rcases i01 g1 g2 with rfl | rfl
      · exact lm_sety0 hM h hv hk K
      · exact lm_sety1 hM h hv hk K
    · skip
      refine x_if_ne_f (pc := 15) (tgt := 20) dX10_set_15 (by decide) (by decide) ?_
      refine x_iconst (pc := 18) (v := -1) dX10_set_18 (by decide) ?_
      refine x_ireturn (pc := 19) dX10_set_19 ⟨_, rfl, rfl⟩ ⟨Nat.le_refl _, Nat.le_refl _⟩ ?_
      have e9 : spSet V (nI k) y z = (-1, V) := by first | exact spSet_n h1 | exact spSet_y g1
      have h9 := K I (by rw [e9]; exact h) mdP.rf
      rw [e9] at h9
      exact h9
  · skip
    refine x_if_eq_t (pc := 5) (tgt := 18) dX10_set_5 (by decide) (by decide) ?_
    refine x_iconst (pc := 18) (v := -1) dX10_set_18 (by decide) ?_
    refine x_ireturn (pc := 19) dX10_set_19 ⟨_, rfl, rfl⟩ ⟨Nat.le_refl _, Nat.le_refl _⟩ ?_
    have e9 : spSet V (x) y z = (-1, V) := by first | exact spSet_n h1 | exact spSet_y g1
    have h9 := K I (by rw [e9]; exact h) mdP.rf
    rw [e9] at h9
    exact h9

