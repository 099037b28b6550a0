/-! ===== Scene: looking round ===== -/
theorem up2_self {α : Type} {f : Nat → Nat → α} {a k : Nat} {x : α} (h : f a k = x) : up2 f a k x = f := by
  funext b j
  unfold up2
  split
  · rename_i q
    rw [q.1, q.2, h]
  · rfl
theorem up2_up2 {α : Type} {f : Nat → Nat → α} {a k : Nat} {x y : α} : up2 (up2 f a k x) a k y = up2 f a k y := by
  funext b j
  unfold up2
  split <;> rfl
def pick (ok : Nat → Bool) (bet : Nat → Nat → Bool) (own : Nat) : Nat → Nat
  | 0 => own
  | s + 1 => match nxt own s with
    | none => pick ok bet own s
    | some z => if (ok z && bet z (pick ok bet own s)) = true then z else pick ok bet own s
section PICK
variable {ok : Nat → Bool} {bet : Nat → Nat → Bool} {own s z : Nat}
theorem pick_none (h : nxt own s = none) : pick ok bet own (s + 1) = pick ok bet own s := by
  show (match nxt own s with | none => _ | some z => _) = _
  rw [h]
theorem pick_no (h : nxt own s = some z) (h2 : ok z = false ∨ bet z (pick ok bet own s) = false) : pick ok bet own (s + 1) = pick ok bet own s := by
  show (match nxt own s with | none => _ | some z => _) = _
  rw [h]
  rcases h2 with h2 | h2 <;> simp [h2]
theorem pick_yes (h : nxt own s = some z) (h2 : ok z = true) (h3 : bet z (pick ok bet own s) = true) : pick ok bet own (s + 1) = z := by
  show (match nxt own s with | none => _ | some z => _) = _
  rw [h]
  simp [h2, h3]
theorem pick_lt (ho : own < 36) (s : Nat) : pick ok bet own s < 36 := by
  induction s with
  | zero => exact ho
  | succ s ih =>
    cases h : nxt own s with
    | none => rw [pick_none h]; exact ih
    | some z =>
      cases h2 : (ok z && bet z (pick ok bet own s)) with
      | true =>
        rw [pick_yes h (by simp at h2; exact h2.1) (by simp at h2; exact h2.2)]
        exact nxt_lt ho h
      | false =>
        rw [pick_no h (by
          cases h3 : ok z with
          | false => exact Or.inl rfl
          | true => rw [h3] at h2; exact Or.inr (by simpa using h2))]
        exact ih
end PICK
def yOk (nb : Nat) (ce : Nat → Nat) : Nat → Bool := fun z => !held nb ce z
def yBet (ta : Nat) : Nat → Nat → Bool := fun z p => decide (rnd p ta < rnd z ta)
def cOk (nb : Nat) (ce : Nat → Nat) (into : Bool) (ta : Nat) : Nat → Bool := fun z => !held nb ce z && (into || !(z == ta))
def cBet (goal : Nat) : Nat → Nat → Bool := fun z p => decide (rnd z goal < rnd p goal)
def yPk (nb : Nat) (ce : Nat → Nat) (ta own : Nat) : Nat → Nat := pick (yOk nb ce) (yBet ta) own
def cPk (nb : Nat) (ce : Nat → Nat) (into : Bool) (ta goal own : Nat) : Nat → Nat := pick (cOk nb ce into ta) (cBet goal) own
theorem cnt_y {p : Nat → Bool} {i : Nat} (h : p i = true) : cnt p (i + 1) = cnt p i + 1 := by
  show cnt p i + (if p i = true then 1 else 0) = _
  rw [if_pos h]
theorem cnt_n {p : Nat → Bool} {i : Nat} (h : p i = false) : cnt p (i + 1) = cnt p i := by
  show cnt p i + (if p i = true then 1 else 0) = _
  rw [h]
  rfl
set_option maxHeartbeats 4000000 in
set_option maxRecDepth 100000 in
theorem l_nearOnes {T : xT} {n : Nat} {sh : Nat → Nat × Nat} {I : xI} {R : xR} {L : xL} {P : xPost} {b nb bi : Nat} {ce : Nat → Nat} (hS : xScene sh R b) (hc : bRow I (b + 5) nb ce) (hn6 : nb ≤ 6) (hce : ∀ i, i < nb → ce i < 36) (hb : bi < nb) (K : P (n, sh, 0, 0) I R L (some (.int (nI (nearN nb ce bi))))) : ∀ (w i : Nat), i + w = nb → X T zX6_nearOnes 2 0 0 P 4 [(0, .ref b), (1, .int (nI bi)), (2, .int (nI (cnt (nearP ce bi) i))), (3, .int (nI i))] [] (n, sh, 0, 0) (I) R L := by
  have hS0 := hS
  obtain ⟨s0, sl, rl, f0, f1, f2, f3, f4, f5, f6, f7, w0, w1, w2, w3, w4, w5, w6, w7⟩ := hS
  intro w
  induction w with
  | zero =>
    intro i hw
    have hz : i = nb := by omega
    refine x_iload_n (pc := 4) dX6_nearOnes_4 rfl rfl ?_
    refine x_aload_n (pc := 5) dX6_nearOnes_5 rfl rfl ?_
    refine x_callV (pc := 6) (As := []) dX6_nearOnes_6 km_X6_size kv_X6_size kl_RX6_71 s0 rfl rfl (by decide) ⟨Nat.le_refl _, Nat.le_refl _⟩ rfl (Nat.le_of_ble_eq_true rfl) (Nat.le_of_ble_eq_true rfl) (c_size hS0 hc hn6 (⟨rfl, rfl, ?_⟩))
    refine x_icmpn_ge_t (pc := 9) (tgt := 49) (a := i) (b := nb) dX6_nearOnes_9 (by decide) (by omega) (by omega) (by omega) ?_
    refine x_iload_n (pc := 49) dX6_nearOnes_49 rfl rfl ?_
    refine x_ireturn (pc := 50) dX6_nearOnes_50 ⟨_, rfl, rfl⟩ ⟨Nat.le_refl _, Nat.le_refl _⟩ ?_
    rw [hz]
    exact K
  | succ w ih =>
    intro i hw
    have hi : i < nb := by omega
    refine x_iload_n (pc := 4) dX6_nearOnes_4 rfl rfl ?_
    refine x_aload_n (pc := 5) dX6_nearOnes_5 rfl rfl ?_
    refine x_callV (pc := 6) (As := []) dX6_nearOnes_6 km_X6_size kv_X6_size kl_RX6_71 s0 rfl rfl (by decide) ⟨Nat.le_refl _, Nat.le_refl _⟩ rfl (Nat.le_of_ble_eq_true rfl) (Nat.le_of_ble_eq_true rfl) (c_size hS0 hc hn6 (⟨rfl, rfl, ?_⟩))
    refine x_icmpn_ge_f (pc := 9) (tgt := 49) (a := i) (b := nb) dX6_nearOnes_9 (by decide) (by omega) (by omega) (by omega) ?_
    refine x_iload_n (pc := 12) dX6_nearOnes_12 rfl rfl ?_
    refine x_iload_n (pc := 13) dX6_nearOnes_13 rfl rfl ?_
    refine x_icmpn_eq (pc := 14) (tgt := 43) (a := i) (b := bi) dX6_nearOnes_14 (by decide) (by omega) (by omega) (fun c14 => ?_) (fun c14 => ?_)
    · skip
      refine x_iinc (pc := 43) (v := nI (i + 1)) (lv' := [(0, .ref b), (1, .int (nI bi)), (2, .int (nI (cnt (nearP ce bi) i))), (3, .int (nI (i + 1)))]) dX6_nearOnes_43 rfl (nI_1 _) (by decide) rfl ?_
      refine x_goto (pc := 46) (tgt := 4) dX6_nearOnes_46 (by decide) ?_
      have h := ih (i + 1) (by omega)
      rw [cnt_n (p := nearP ce bi) (i := i) (by unfold nearP; simp [c14])] at h
      exact h
    · skip
      refine x_aload_n (pc := 17) dX6_nearOnes_17 rfl rfl ?_
      refine x_getr (pc := 18) dX6_nearOnes_18 kf_RX6_23 s0 rfl f2 ?_
      refine x_iload_n (pc := 21) dX6_nearOnes_21 rfl rfl ?_
      refine x_callV (pc := 22) (As := [.int _]) dX6_nearOnes_22 km_X5_at kv_X5_at kl_RX6_89 w2.1 rfl rfl (by decide) ⟨Nat.le_refl _, Nat.le_refl _⟩ rfl (Nat.le_of_ble_eq_true rfl) (Nat.le_of_ble_eq_true rfl) (c_at w2 (⟨rfl, rfl, ?_⟩))
      rw [hc.1, rAt_in hi hn6 (by omega), hc.2 _ hi]
      refine x_aload_n (pc := 25) dX6_nearOnes_25 rfl rfl ?_
      refine x_getr (pc := 26) dX6_nearOnes_26 kf_RX6_23 s0 rfl f2 ?_
      refine x_iload_n (pc := 29) dX6_nearOnes_29 rfl rfl ?_
      refine x_callV (pc := 30) (As := [.int _]) dX6_nearOnes_30 km_X5_at kv_X5_at kl_RX6_89 w2.1 rfl rfl (by decide) ⟨Nat.le_refl _, Nat.le_refl _⟩ rfl (Nat.le_of_ble_eq_true rfl) (Nat.le_of_ble_eq_true rfl) (c_at w2 (⟨rfl, rfl, ?_⟩))
      rw [hc.1, rAt_in hb hn6 (by omega), hc.2 _ hb]
      refine x_callSN (pc := 33) (As := [.int _, .int _]) dX6_nearOnes_33 km_X9_farOf ks_X9_farOf kn_RX6_150 rfl (by decide) ⟨Nat.le_refl _, Nat.le_refl _⟩ rfl (Nat.le_of_ble_eq_true rfl) (Nat.le_of_ble_eq_true rfl) (c_farOf (hce _ hi) (hce _ hb) (⟨rfl, rfl, ?_⟩))
      have hfl := far_lt (hce _ hi) (hce _ hb)
      refine x_iconst (pc := 36) (v := 2) dX6_nearOnes_36 (by decide) ?_
      refine x_icmpn_gt (pc := 37) (tgt := 43) (a := (far (ce i) (ce bi))) (b := 2) dX6_nearOnes_37 (by decide) (by omega) (by decide) (fun c37 => ?_) (fun c37 => ?_)
      · skip
        refine x_iinc (pc := 43) (v := nI (i + 1)) (lv' := [(0, .ref b), (1, .int (nI bi)), (2, .int (nI (cnt (nearP ce bi) i))), (3, .int (nI (i + 1)))]) dX6_nearOnes_43 rfl (nI_1 _) (by decide) rfl ?_
        refine x_goto (pc := 46) (tgt := 4) dX6_nearOnes_46 (by decide) ?_
        have h := ih (i + 1) (by omega)
        rw [cnt_n (p := nearP ce bi) (i := i) (by unfold nearP; simp; intro _; omega)] at h
        exact h
      · skip
        refine x_iinc (pc := 40) (v := nI (cnt (nearP ce bi) i + 1)) (lv' := [(0, .ref b), (1, .int (nI bi)), (2, .int (nI (cnt (nearP ce bi) i + 1))), (3, .int (nI i))]) dX6_nearOnes_40 rfl (nI_1 _) (by decide) rfl ?_
        refine x_iinc (pc := 43) (v := nI (i + 1)) (lv' := [(0, .ref b), (1, .int (nI bi)), (2, .int (nI (cnt (nearP ce bi) i + 1))), (3, .int (nI (i + 1)))]) dX6_nearOnes_43 rfl (nI_1 _) (by decide) rfl ?_
        refine x_goto (pc := 46) (tgt := 4) dX6_nearOnes_46 (by decide) ?_
        have h := ih (i + 1) (by omega)
        rw [cnt_y (p := nearP ce bi) (i := i) (by unfold nearP; simp; exact ⟨c14, c37⟩)] at h
        exact h

set_option maxHeartbeats 4000000 in
set_option maxRecDepth 100000 in
theorem c_nearOnes {T : xT} {n : Nat} {sh : Nat → Nat × Nat} {I : xI} {R : xR} {L : xL} {P : xPost} {b nb bi : Nat} {ce : Nat → Nat} (hS : xScene sh R b) (hc : bRow I (b + 5) nb ce) (hn6 : nb ≤ 6) (hce : ∀ i, i < nb → ce i < 36) (hb : bi < nb) (K : P (n, sh, 0, 0) I R L (some (.int (nI (nearN nb ce bi))))) : XM T zX6_nearOnes 2 [.ref b, .int (nI bi)] n sh I R L P := by
  refine x_iconst (pc := 0) (v := 0) dX6_nearOnes_0 (by decide) ?_
  refine x_istore_n (pc := 1) (lv' := [(0, .ref b), (1, .int (nI bi)), (2, .int 0)]) dX6_nearOnes_1 rfl (by decide) rfl ?_
  refine x_iconst (pc := 2) (v := 0) dX6_nearOnes_2 (by decide) ?_
  refine x_istore_n (pc := 3) (lv' := [(0, .ref b), (1, .int (nI bi)), (2, .int 0), (3, .int 0)]) dX6_nearOnes_3 rfl (by decide) rfl ?_
  exact l_nearOnes hS hc hn6 hce hb K nb 0 (by omega)

set_option maxHeartbeats 4000000 in
set_option maxRecDepth 100000 in
theorem l_shutSides {T : xT} {n : Nat} {sh : Nat → Nat × Nat} {I : xI} {R : xR} {L : xL} {P : xPost} {b nb own : Nat} {ce : Nat → Nat} (hS : xScene sh R b) (hc : bRow I (b + 5) nb ce) (hn6 : nb ≤ 6) (hce : ∀ i, i < nb → ce i < 36) (ho : own < 36) (K : P (n, sh, 0, 0) I R L (some (.int (nI (shutN nb ce own))))) : ∀ (w i : Nat), i + w = 4 → X T zX6_shutSides 2 0 0 P 4 [(0, .ref b), (1, .int (nI own)), (2, .int (nI (cnt (shutP nb ce own) i))), (3, .int (nI i))] [] (n, sh, 0, 0) (I) R L := by
  have hS0 := hS
  obtain ⟨s0, sl, rl, f0, f1, f2, f3, f4, f5, f6, f7, w0, w1, w2, w3, w4, w5, w6, w7⟩ := hS
  intro w
  induction w with
  | zero =>
    intro i hw
    have hz : i = 4 := by omega
    refine x_iload_n (pc := 4) dX6_shutSides_4 rfl rfl ?_
    refine x_iconst (pc := 5) (v := 4) dX6_shutSides_5 (by decide) ?_
    refine x_icmpn_ge_t (pc := 6) (tgt := 40) (a := i) (b := 4) dX6_shutSides_6 (by decide) (by omega) (by decide) (by omega) ?_
    refine x_iload_n (pc := 40) dX6_shutSides_40 rfl rfl ?_
    refine x_ireturn (pc := 41) dX6_shutSides_41 ⟨_, rfl, rfl⟩ ⟨Nat.le_refl _, Nat.le_refl _⟩ ?_
    rw [hz]
    exact K
  | succ w ih =>
    intro i hw
    have hi : i < 4 := by omega
    refine x_iload_n (pc := 4) dX6_shutSides_4 rfl rfl ?_
    refine x_iconst (pc := 5) (v := 4) dX6_shutSides_5 (by decide) ?_
    refine x_icmpn_ge_f (pc := 6) (tgt := 40) (a := i) (b := 4) dX6_shutSides_6 (by decide) (by omega) (by decide) (by omega) ?_
    refine x_iload_n (pc := 9) dX6_shutSides_9 rfl rfl ?_
    refine x_iload_n (pc := 10) dX6_shutSides_10 rfl rfl ?_
    refine x_callSN (pc := 11) (As := [.int _, .int _]) dX6_shutSides_11 km_X9_nextTo ks_X9_nextTo kn_RX6_153 rfl (by decide) ⟨Nat.le_refl _, Nat.le_refl _⟩ rfl (Nat.le_of_ble_eq_true rfl) (Nat.le_of_ble_eq_true rfl) (c_nextTo ho hi (fun z hnx => ⟨rfl, rfl, ?_⟩) (fun hno => ⟨rfl, rfl, ?_⟩))
    · skip
      have hz36 := nxt_lt ho hnx
      refine x_istore (pc := 14) (lv' := [(0, .ref b), (1, .int (nI own)), (2, .int (nI (cnt (shutP nb ce own) i))), (3, .int (nI i)), (4, .int (nI z))]) dX6_shutSides_14 (by decide) rfl ?_
      refine x_iload (pc := 16) dX6_shutSides_16 rfl ?_
      refine x_iconst (pc := 18) (v := -1) dX6_shutSides_18 (by decide) ?_
      refine x_icmp_eq_f (pc := 19) (tgt := 31) dX6_shutSides_19 (by decide) (nI_nem (by omega)) ?_
      refine x_aload_n (pc := 22) dX6_shutSides_22 rfl rfl ?_
      refine x_iload (pc := 23) dX6_shutSides_23 rfl ?_
      refine x_callV (pc := 25) (As := [.int _]) dX6_shutSides_25 km_X6_holdsBeast kv_X6_holdsBeast kl_RX6_85 s0 rfl rfl (by decide) ⟨Nat.le_refl _, Nat.le_refl _⟩ rfl (Nat.le_of_ble_eq_true rfl) (Nat.le_of_ble_eq_true rfl) (c_holdsBeast (x := z) hS0 hc hn6 hce hz36 (fun hh => ⟨rfl, rfl, ?_⟩) (fun hf => ⟨rfl, rfl, ?_⟩))
      · skip
        refine x_if_eq_f (pc := 28) (tgt := 34) dX6_shutSides_28 (by decide) (by decide) ?_
        refine x_iinc (pc := 31) (v := nI (cnt (shutP nb ce own) i + 1)) (lv' := [(0, .ref b), (1, .int (nI own)), (2, .int (nI (cnt (shutP nb ce own) i + 1))), (3, .int (nI i)), (4, .int (nI z))]) dX6_shutSides_31 rfl (nI_1 _) (by decide) rfl ?_
        refine x_iinc (pc := 34) (v := nI (i + 1)) (lv' := [(0, .ref b), (1, .int (nI own)), (2, .int (nI (cnt (shutP nb ce own) i + 1))), (3, .int (nI (i + 1))), (4, .int (nI z))]) dX6_shutSides_34 rfl (nI_1 _) (by decide) rfl ?_
        refine x_goto (pc := 37) (tgt := 4) dX6_shutSides_37 (by decide) ?_
        have h := ih (i + 1) (by omega)
        rw [cnt_y (p := shutP nb ce own) (i := i) (by unfold shutP; rw [hnx]; exact hh)] at h
        exact X.keep [0, 1, 2, 3] rfl h
      · skip
        refine x_if_eq_t (pc := 28) (tgt := 34) dX6_shutSides_28 (by decide) (by decide) ?_
        refine x_iinc (pc := 34) (v := nI (i + 1)) (lv' := [(0, .ref b), (1, .int (nI own)), (2, .int (nI (cnt (shutP nb ce own) i))), (3, .int (nI (i + 1))), (4, .int (nI z))]) dX6_shutSides_34 rfl (nI_1 _) (by decide) rfl ?_
        refine x_goto (pc := 37) (tgt := 4) dX6_shutSides_37 (by decide) ?_
        have h := ih (i + 1) (by omega)
        rw [cnt_n (p := shutP nb ce own) (i := i) (by unfold shutP; rw [hnx]; exact hf)] at h
        exact X.keep [0, 1, 2, 3] rfl h
    · skip
      refine x_istore (pc := 14) (lv' := [(0, .ref b), (1, .int (nI own)), (2, .int (nI (cnt (shutP nb ce own) i))), (3, .int (nI i)), (4, .int (-1))]) dX6_shutSides_14 (by decide) rfl ?_
      refine x_iload (pc := 16) dX6_shutSides_16 rfl ?_
      refine x_iconst (pc := 18) (v := -1) dX6_shutSides_18 (by decide) ?_
      refine x_icmp_eq_t (pc := 19) (tgt := 31) dX6_shutSides_19 (by decide) (by decide) ?_
      refine x_iinc (pc := 31) (v := nI (cnt (shutP nb ce own) i + 1)) (lv' := [(0, .ref b), (1, .int (nI own)), (2, .int (nI (cnt (shutP nb ce own) i + 1))), (3, .int (nI i)), (4, .int (-1))]) dX6_shutSides_31 rfl (nI_1 _) (by decide) rfl ?_
      refine x_iinc (pc := 34) (v := nI (i + 1)) (lv' := [(0, .ref b), (1, .int (nI own)), (2, .int (nI (cnt (shutP nb ce own) i + 1))), (3, .int (nI (i + 1))), (4, .int (-1))]) dX6_shutSides_34 rfl (nI_1 _) (by decide) rfl ?_
      refine x_goto (pc := 37) (tgt := 4) dX6_shutSides_37 (by decide) ?_
      have h := ih (i + 1) (by omega)
      rw [cnt_y (p := shutP nb ce own) (i := i) (by unfold shutP; rw [hno])] at h
      exact X.keep [0, 1, 2, 3] rfl h

set_option maxHeartbeats 4000000 in
set_option maxRecDepth 100000 in
theorem c_shutSides {T : xT} {n : Nat} {sh : Nat → Nat × Nat} {I : xI} {R : xR} {L : xL} {P : xPost} {b nb own : Nat} {ce : Nat → Nat} (hS : xScene sh R b) (hc : bRow I (b + 5) nb ce) (hn6 : nb ≤ 6) (hce : ∀ i, i < nb → ce i < 36) (ho : own < 36) (K : P (n, sh, 0, 0) I R L (some (.int (nI (shutN nb ce own))))) : XM T zX6_shutSides 2 [.ref b, .int (nI own)] n sh I R L P := by
  refine x_iconst (pc := 0) (v := 0) dX6_shutSides_0 (by decide) ?_
  refine x_istore_n (pc := 1) (lv' := [(0, .ref b), (1, .int (nI own)), (2, .int 0)]) dX6_shutSides_1 rfl (by decide) rfl ?_
  refine x_iconst (pc := 2) (v := 0) dX6_shutSides_2 (by decide) ?_
  refine x_istore_n (pc := 3) (lv' := [(0, .ref b), (1, .int (nI own)), (2, .int 0), (3, .int 0)]) dX6_shutSides_3 rfl (by decide) rfl ?_
  exact l_shutSides hS hc hn6 hce ho K 4 0 (by omega)

set_option maxHeartbeats 4000000 in
set_option maxRecDepth 100000 in
theorem c_isCaught {T : xT} {n : Nat} {sh : Nat → Nat × Nat} {I : xI} {R : xR} {L : xL} {P : xPost} {b nb ta : Nat} {ce : Nat → Nat} (hS : xScene sh R b) (hc : bRow I (b + 5) nb ce) (hn6 : nb ≤ 6) (hce : ∀ i, i < nb → ce i < 36) (hta : I b 8 = nI ta) (ht : ta < 36) (K1 : held nb ce ta = true → P (n, sh, 0, 0) I R L (some (.int 1))) (K2 : held nb ce ta = false → P (n, sh, 0, 0) I R L (some (.int 0))) : XM T zX6_isCaught 2 [.ref b] n sh I R L P := by
  have hS0 := hS
  obtain ⟨s0, sl, rl, f0, f1, f2, f3, f4, f5, f6, f7, w0, w1, w2, w3, w4, w5, w6, w7⟩ := hS
  refine x_aload_n (pc := 0) dX6_isCaught_0 rfl rfl ?_
  refine x_aload_n (pc := 1) dX6_isCaught_1 rfl rfl ?_
  refine x_get (pc := 2) dX6_isCaught_2 kf_RX6_41 s0 rfl ?_
  rw [hta]
  refine x_callV (pc := 5) (As := [.int _]) dX6_isCaught_5 km_X6_holdsBeast kv_X6_holdsBeast kl_RX6_85 s0 rfl rfl (by decide) ⟨Nat.le_refl _, Nat.le_refl _⟩ rfl (Nat.le_of_ble_eq_true rfl) (Nat.le_of_ble_eq_true rfl) (c_holdsBeast (x := ta) hS0 hc hn6 hce ht (fun hh => ⟨rfl, rfl, ?_⟩) (fun hf => ⟨rfl, rfl, ?_⟩))
  · skip
    refine x_ireturn (pc := 8) dX6_isCaught_8 ⟨_, rfl, by decide⟩ ⟨Nat.le_refl _, Nat.le_refl _⟩ ?_
    exact K1 hh
  · skip
    refine x_ireturn (pc := 8) dX6_isCaught_8 ⟨_, rfl, by decide⟩ ⟨Nat.le_refl _, Nat.le_refl _⟩ ?_
    exact K2 hf

set_option maxHeartbeats 4000000 in
set_option maxRecDepth 100000 in
theorem c_isSeated {T : xT} {n : Nat} {sh : Nat → Nat × Nat} {I : xI} {R : xR} {L : xL} {P : xPost} {b nb bi : Nat} {ce sto : Nat → Nat} (hS : xScene sh R b) (hc : bRow I (b + 5) nb ce) (hs : bRow I (b + 7) nb sto) (hn6 : nb ≤ 6) (hce : ∀ i, i < nb → ce i < 36) (hst : ∀ i, i < nb → sto i < 36) (hb : bi < nb) (K1 : ce bi = sto bi → P (n, sh, 0, 0) I R L (some (.int 1))) (K2 : ¬ ce bi = sto bi → P (n, sh, 0, 0) I R L (some (.int 0))) : XM T zX6_isSeated 1 [.ref b, .int (nI bi)] n sh I R L P := by
  obtain ⟨s0, sl, rl, f0, f1, f2, f3, f4, f5, f6, f7, w0, w1, w2, w3, w4, w5, w6, w7⟩ := hS
  have q1 := hce _ hb
  have q2 := hst _ hb
  refine x_aload_n (pc := 0) dX6_isSeated_0 rfl rfl ?_
  refine x_getr (pc := 1) dX6_isSeated_1 kf_RX6_23 s0 rfl f2 ?_
  refine x_iload_n (pc := 4) dX6_isSeated_4 rfl rfl ?_
  refine x_callV (pc := 5) (As := [.int _]) dX6_isSeated_5 km_X5_at kv_X5_at kl_RX6_89 w2.1 rfl rfl (by decide) ⟨Nat.le_refl _, Nat.le_refl _⟩ rfl (Nat.le_of_ble_eq_true rfl) (Nat.le_of_ble_eq_true rfl) (c_at w2 (⟨rfl, rfl, ?_⟩))
  rw [hc.1, rAt_in hb hn6 (by omega), hc.2 _ hb]
  refine x_aload_n (pc := 8) dX6_isSeated_8 rfl rfl ?_
  refine x_getr (pc := 9) dX6_isSeated_9 kf_RX6_26 s0 rfl f3 ?_
  refine x_iload_n (pc := 12) dX6_isSeated_12 rfl rfl ?_
  refine x_callV (pc := 13) (As := [.int _]) dX6_isSeated_13 km_X5_at kv_X5_at kl_RX6_89 w3.1 rfl rfl (by decide) ⟨Nat.le_refl _, Nat.le_refl _⟩ rfl (Nat.le_of_ble_eq_true rfl) (Nat.le_of_ble_eq_true rfl) (c_at w3 (⟨rfl, rfl, ?_⟩))
  rw [hs.1, rAt_in hb hn6 (by omega), hs.2 _ hb]
  refine x_icmpn_ne (pc := 16) (tgt := 23) (a := (ce bi)) (b := (sto bi)) dX6_isSeated_16 (by decide) (by omega) (by omega) (fun c16 => ?_) (fun c16 => ?_)
  · skip
    refine x_iconst (pc := 23) (v := 0) dX6_isSeated_23 (by decide) ?_
    refine x_ireturn (pc := 24) dX6_isSeated_24 ⟨_, rfl, by decide⟩ ⟨Nat.le_refl _, Nat.le_refl _⟩ ?_
    exact K2 c16
  · skip
    refine x_iconst (pc := 19) (v := 1) dX6_isSeated_19 (by decide) ?_
    refine x_goto (pc := 20) (tgt := 24) dX6_isSeated_20 (by decide) ?_
    refine x_ireturn (pc := 24) dX6_isSeated_24 ⟨_, rfl, by decide⟩ ⟨Nat.le_refl _, Nat.le_refl _⟩ ?_
    exact K1 c16

set_option maxHeartbeats 4000000 in
set_option maxRecDepth 100000 in
theorem c_goTo {T : xT} {n : Nat} {sh : Nat → Nat × Nat} {I : xI} {R : xR} {L : xL} {P : xPost} {b nb ta : Nat} {ce : Nat → Nat} (hS : xScene sh R b) (hc : bRow I (b + 5) nb ce) (hn6 : nb ≤ 6) (hce : ∀ i, i < nb → ce i < 36) (hta : I b 8 = nI ta) (ht : ta < 36) {x : Nat} (hx : x < 36) (K1 : (x = ta ∨ (rnd x ta = 1 ∧ held nb ce x = false)) → P (n, sh, 0, 0) (up2 I b 8 (nI x)) R L (some (.int 1))) (K2 : ¬ (x = ta ∨ (rnd x ta = 1 ∧ held nb ce x = false)) → P (n, sh, 0, 0) I R L (some (.int 0))) : XM T zX6_goTo 2 [.ref b, .int (nI x)] n sh I R L P := by
  have hS0 := hS
  obtain ⟨s0, sl, rl, f0, f1, f2, f3, f4, f5, f6, f7, w0, w1, w2, w3, w4, w5, w6, w7⟩ := hS
  refine x_iload_n (pc := 0) dX6_goTo_0 rfl rfl ?_
  refine x_aload_n (pc := 1) dX6_goTo_1 rfl rfl ?_
  refine x_get (pc := 2) dX6_goTo_2 kf_RX6_41 s0 rfl ?_
  rw [hta]
  refine x_icmpn_ne (pc := 5) (tgt := 10) (a := x) (b := ta) dX6_goTo_5 (by decide) (by omega) (by omega) (fun c5 => ?_) (fun c5 => ?_)
  · skip
    refine x_iload_n (pc := 10) dX6_goTo_10 rfl rfl ?_
    refine x_aload_n (pc := 11) dX6_goTo_11 rfl rfl ?_
    refine x_get (pc := 12) dX6_goTo_12 kf_RX6_41 s0 rfl ?_
    rw [hta]
    refine x_callSN (pc := 15) (As := [.int _, .int _]) dX6_goTo_15 km_X9_roundOf ks_X9_roundOf kn_RX6_99 rfl (by decide) ⟨Nat.le_refl _, Nat.le_refl _⟩ rfl (Nat.le_of_ble_eq_true rfl) (Nat.le_of_ble_eq_true rfl) (c_roundOf hx ht (⟨rfl, rfl, ?_⟩))
    have hrl := rnd_lt hx ht
    refine x_iconst (pc := 18) (v := 1) dX6_goTo_18 (by decide) ?_
    refine x_icmpn_ne (pc := 19) (tgt := 30) (a := (rnd x ta)) (b := 1) dX6_goTo_19 (by decide) (by omega) (by decide) (fun c19 => ?_) (fun c19 => ?_)
    · skip
      refine x_iconst (pc := 30) (v := 0) dX6_goTo_30 (by decide) ?_
      refine x_ireturn (pc := 31) dX6_goTo_31 ⟨_, rfl, by decide⟩ ⟨Nat.le_refl _, Nat.le_refl _⟩ ?_
      exact K2 (fun h => h.elim c5 (fun h => c19 h.1))
    · skip
      refine x_aload_n (pc := 22) dX6_goTo_22 rfl rfl ?_
      refine x_iload_n (pc := 23) dX6_goTo_23 rfl rfl ?_
      refine x_callV (pc := 24) (As := [.int _]) dX6_goTo_24 km_X6_holdsBeast kv_X6_holdsBeast kl_RX6_85 s0 rfl rfl (by decide) ⟨Nat.le_refl _, Nat.le_refl _⟩ rfl (Nat.le_of_ble_eq_true rfl) (Nat.le_of_ble_eq_true rfl) (c_holdsBeast (x := x) hS0 hc hn6 hce hx (fun hh => ⟨rfl, rfl, ?_⟩) (fun hf => ⟨rfl, rfl, ?_⟩))
      · skip
        refine x_if_eq_f (pc := 27) (tgt := 32) dX6_goTo_27 (by decide) (by decide) ?_
        refine x_iconst (pc := 30) (v := 0) dX6_goTo_30 (by decide) ?_
        refine x_ireturn (pc := 31) dX6_goTo_31 ⟨_, rfl, by decide⟩ ⟨Nat.le_refl _, Nat.le_refl _⟩ ?_
        exact K2 (fun h => h.elim c5 (fun h => by rw [hh] at h; exact absurd h.2 (by decide)))
      · skip
        refine x_if_eq_t (pc := 27) (tgt := 32) dX6_goTo_27 (by decide) (by decide) ?_
        refine x_aload_n (pc := 32) dX6_goTo_32 rfl rfl ?_
        refine x_iload_n (pc := 33) dX6_goTo_33 rfl rfl ?_
        refine x_put (pc := 34) dX6_goTo_34 kf_RX6_41 s0 rfl (Or.inl kb_6_8) ?_
        refine x_iconst (pc := 37) (v := 1) dX6_goTo_37 (by decide) ?_
        refine x_ireturn (pc := 38) dX6_goTo_38 ⟨_, rfl, by decide⟩ ⟨Nat.le_refl _, Nat.le_refl _⟩ ?_
        exact K1 (Or.inr ⟨c19, hf⟩)
  · skip
    refine x_iconst (pc := 8) (v := 1) dX6_goTo_8 (by decide) ?_
    refine x_ireturn (pc := 9) dX6_goTo_9 ⟨_, rfl, by decide⟩ ⟨Nat.le_refl _, Nat.le_refl _⟩ ?_
    exact xvI (K1 (Or.inl c5)) (up2_self (by rw [hta, c5]))

set_option maxHeartbeats 4000000 in
set_option maxRecDepth 100000 in
theorem c_refuses {T : xT} {n : Nat} {sh : Nat → Nat × Nat} {I : xI} {R : xR} {L : xL} {P : xPost} {b e te : Nat} (hS : xScene sh R b) (hte : I b 9 = nI te) (ht : te < 2 ^ 30) (he : e < 2 ^ 30) (K1 : (0 < e ∧ te % e = 0) → P (n, sh, 0, 0) I R L (some (.int 1))) (K2 : ¬ (0 < e ∧ te % e = 0) → P (n, sh, 0, 0) I R L (some (.int 0))) : XM T zX6_refuses 0 [.ref b, .int (nI e)] n sh I R L P := by
  obtain ⟨s0, sl, rl, f0, f1, f2, f3, f4, f5, f6, f7, w0, w1, w2, w3, w4, w5, w6, w7⟩ := hS
  refine x_iload_n (pc := 0) dX6_refuses_0 rfl rfl ?_
  refine x_ifn_le (pc := 1) (tgt := 17) (a := e) dX6_refuses_1 (by decide) (by omega) (fun c1 => ?_) (fun c1 => ?_)
  · skip
    refine x_iconst (pc := 17) (v := 0) dX6_refuses_17 (by decide) ?_
    refine x_ireturn (pc := 18) dX6_refuses_18 ⟨_, rfl, by decide⟩ ⟨Nat.le_refl _, Nat.le_refl _⟩ ?_
    exact K2 (fun h => by omega)
  · skip
    refine x_aload_n (pc := 4) dX6_refuses_4 rfl rfl ?_
    refine x_get (pc := 5) dX6_refuses_5 kf_RX6_45 s0 rfl ?_
    rw [hte]
    refine x_iload_n (pc := 8) dX6_refuses_8 rfl rfl ?_
    refine x_iremn (pc := 9) (a := te) (b := e) dX6_refuses_9 (by omega) (by omega) (by omega) ?_
    have hml := Nat.mod_lt te c1
    refine x_ifn_ne (pc := 10) (tgt := 17) (a := (te % e)) dX6_refuses_10 (by decide) (by omega) (fun c10 => ?_) (fun c10 => ?_)
    · skip
      refine x_iconst (pc := 17) (v := 0) dX6_refuses_17 (by decide) ?_
      refine x_ireturn (pc := 18) dX6_refuses_18 ⟨_, rfl, by decide⟩ ⟨Nat.le_refl _, Nat.le_refl _⟩ ?_
      exact K2 (fun h => c10 h.2)
    · skip
      refine x_iconst (pc := 13) (v := 1) dX6_refuses_13 (by decide) ?_
      refine x_goto (pc := 14) (tgt := 18) dX6_refuses_14 (by decide) ?_
      refine x_ireturn (pc := 18) dX6_refuses_18 ⟨_, rfl, by decide⟩ ⟨Nat.le_refl _, Nat.le_refl _⟩ ?_
      exact K1 ⟨c1, c10⟩

set_option maxHeartbeats 4000000 in
set_option maxRecDepth 100000 in
theorem l_yielded {T : xT} {n : Nat} {sh : Nat → Nat × Nat} {I : xI} {R : xR} {L : xL} {P : xPost} {b nb own : Nat} {ce : Nat → Nat} (hS : xScene sh R b) (hc : bRow I (b + 5) nb ce) (hn6 : nb ≤ 6) (hce : ∀ i, i < nb → ce i < 36) (ho : own < 36) {ta : Nat} (hta : I b 8 = nI ta) (ht : ta < 36) (ha : I b 14 = nI own) (K1 : ¬ yPk nb ce ta own 4 = own → P (n, sh, 0, 0) (up2 I b 14 (nI (yPk nb ce ta own 4))) R L (some (.int 1))) (K2 : yPk nb ce ta own 4 = own → P (n, sh, 0, 0) I R L (some (.int 0))) : ∀ (w i : Nat), i + w = 4 → X T zX6_yielded 2 0 0 P 11 [(0, .ref b), (1, .int (nI own)), (2, .int (nI (rnd (yPk nb ce ta own i) ta))), (3, .int (nI i))] [] (n, sh, 0, 0) (up2 I b 14 (nI (yPk nb ce ta own i))) R L := by
  have hS0 := hS
  obtain ⟨s0, sl, rl, f0, f1, f2, f3, f4, f5, f6, f7, w0, w1, w2, w3, w4, w5, w6, w7⟩ := hS
  have hc2 : ∀ z, bRow (up2 I b 14 z) (b + 5) nb ce := fun z => hc.keep (up2_row (by omega)) (up2_row (by omega))
  have ht2 : ∀ z, up2 I b 14 z b 8 = nI ta := fun z => by rw [up2_k (by decide)]; exact hta
  intro w
  induction w with
  | zero =>
    intro i hw
    have hz : i = 4 := by omega
    have hpl : yPk nb ce ta own i < 36 := pick_lt ho i
    refine x_iload_n (pc := 11) dX6_yielded_11 rfl rfl ?_
    refine x_iconst (pc := 12) (v := 4) dX6_yielded_12 (by decide) ?_
    refine x_icmpn_ge_t (pc := 13) (tgt := 73) (a := i) (b := 4) dX6_yielded_13 (by decide) (by omega) (by decide) (by omega) ?_
    refine x_aload_n (pc := 73) dX6_yielded_73 rfl rfl ?_
    refine x_get (pc := 74) dX6_yielded_74 kf_RX6_65 s0 rfl ?_
    rw [up2_s]
    refine x_iload_n (pc := 77) dX6_yielded_77 rfl rfl ?_
    refine x_icmpn_eq (pc := 78) (tgt := 85) (a := (yPk nb ce ta own i)) (b := own) dX6_yielded_78 (by decide) (by omega) (by omega) (fun c78 => ?_) (fun c78 => ?_)
    · skip
      refine x_iconst (pc := 85) (v := 0) dX6_yielded_85 (by decide) ?_
      refine x_ireturn (pc := 86) dX6_yielded_86 ⟨_, rfl, by decide⟩ ⟨Nat.le_refl _, Nat.le_refl _⟩ ?_
      rw [hz] at c78 ⊢
      rw [c78]
      exact xvI (K2 c78) (up2_self ha).symm
    · skip
      refine x_iconst (pc := 81) (v := 1) dX6_yielded_81 (by decide) ?_
      refine x_goto (pc := 82) (tgt := 86) dX6_yielded_82 (by decide) ?_
      refine x_ireturn (pc := 86) dX6_yielded_86 ⟨_, rfl, by decide⟩ ⟨Nat.le_refl _, Nat.le_refl _⟩ ?_
      rw [hz] at c78 ⊢
      exact K1 c78
  | succ w ih =>
    intro i hw
    have hi : i < 4 := by omega
    have hpl : yPk nb ce ta own i < 36 := pick_lt ho i
    have hrl := rnd_lt hpl ht
    refine x_iload_n (pc := 11) dX6_yielded_11 rfl rfl ?_
    refine x_iconst (pc := 12) (v := 4) dX6_yielded_12 (by decide) ?_
    refine x_icmpn_ge_f (pc := 13) (tgt := 73) (a := i) (b := 4) dX6_yielded_13 (by decide) (by omega) (by decide) (by omega) ?_
    refine x_iload_n (pc := 16) dX6_yielded_16 rfl rfl ?_
    refine x_iload_n (pc := 17) dX6_yielded_17 rfl rfl ?_
    refine x_callSN (pc := 18) (As := [.int _, .int _]) dX6_yielded_18 km_X9_nextTo ks_X9_nextTo kn_RX6_153 rfl (by decide) ⟨Nat.le_refl _, Nat.le_refl _⟩ rfl (Nat.le_of_ble_eq_true rfl) (Nat.le_of_ble_eq_true rfl) (c_nextTo ho hi (fun z hnx => ⟨rfl, rfl, ?_⟩) (fun hno => ⟨rfl, rfl, ?_⟩))
    · skip
      have hz36 := nxt_lt ho hnx
      refine x_istore (pc := 21) (lv' := [(0, .ref b), (1, .int (nI own)), (2, .int (nI (rnd (yPk nb ce ta own i) ta))), (3, .int (nI i)), (4, .int (nI z))]) dX6_yielded_21 (by decide) rfl ?_
      refine x_iload (pc := 23) dX6_yielded_23 rfl ?_
      refine x_iconst (pc := 25) (v := -1) dX6_yielded_25 (by decide) ?_
      refine x_icmp_eq_f (pc := 26) (tgt := 67) dX6_yielded_26 (by decide) (nI_nem (by omega)) ?_
      refine x_aload_n (pc := 29) dX6_yielded_29 rfl rfl ?_
      refine x_iload (pc := 30) dX6_yielded_30 rfl ?_
      refine x_callV (pc := 32) (As := [.int _]) dX6_yielded_32 km_X6_holdsBeast kv_X6_holdsBeast kl_RX6_85 s0 rfl rfl (by decide) ⟨Nat.le_refl _, Nat.le_refl _⟩ rfl (Nat.le_of_ble_eq_true rfl) (Nat.le_of_ble_eq_true rfl) (c_holdsBeast (x := z) hS0 (hc2 _) hn6 hce hz36 (fun hh => ⟨rfl, rfl, ?_⟩) (fun hf => ⟨rfl, rfl, ?_⟩))
      · skip
        refine x_if_ne_t (pc := 35) (tgt := 67) dX6_yielded_35 (by decide) (by decide) ?_
        refine x_iinc (pc := 67) (v := nI (i + 1)) (lv' := [(0, .ref b), (1, .int (nI own)), (2, .int (nI (rnd (yPk nb ce ta own i) ta))), (3, .int (nI (i + 1))), (4, .int (nI z))]) dX6_yielded_67 rfl (nI_1 _) (by decide) rfl ?_
        refine x_goto (pc := 70) (tgt := 11) dX6_yielded_70 (by decide) ?_
        have h := ih (i + 1) (by omega)
        rw [show yPk nb ce ta own (i + 1) = yPk nb ce ta own i from pick_no hnx (Or.inl (by unfold yOk; rw [hh]; rfl))] at h
        exact X.keep [0, 1, 2, 3] rfl h
      · skip
        refine x_if_ne_f (pc := 35) (tgt := 67) dX6_yielded_35 (by decide) (by decide) ?_
        refine x_iload (pc := 38) dX6_yielded_38 rfl ?_
        refine x_aload_n (pc := 40) dX6_yielded_40 rfl rfl ?_
        refine x_get (pc := 41) dX6_yielded_41 kf_RX6_41 s0 rfl ?_
        rw [ht2]
        refine x_callSN (pc := 44) (As := [.int _, .int _]) dX6_yielded_44 km_X9_roundOf ks_X9_roundOf kn_RX6_99 rfl (by decide) ⟨Nat.le_refl _, Nat.le_refl _⟩ rfl (Nat.le_of_ble_eq_true rfl) (Nat.le_of_ble_eq_true rfl) (c_roundOf hz36 ht (⟨rfl, rfl, ?_⟩))
        have := rnd_lt hz36 ht
        refine x_iload_n (pc := 47) dX6_yielded_47 rfl rfl ?_
        refine x_icmpn_le (pc := 48) (tgt := 67) (a := (rnd z ta)) (b := (rnd (yPk nb ce ta own i) ta)) dX6_yielded_48 (by decide) (by omega) (by omega) (fun c48 => ?_) (fun c48 => ?_)
        · skip
          refine x_iinc (pc := 67) (v := nI (i + 1)) (lv' := [(0, .ref b), (1, .int (nI own)), (2, .int (nI (rnd (yPk nb ce ta own i) ta))), (3, .int (nI (i + 1))), (4, .int (nI z))]) dX6_yielded_67 rfl (nI_1 _) (by decide) rfl ?_
          refine x_goto (pc := 70) (tgt := 11) dX6_yielded_70 (by decide) ?_
          have h := ih (i + 1) (by omega)
          rw [show yPk nb ce ta own (i + 1) = yPk nb ce ta own i from pick_no hnx (Or.inr (by unfold yBet; exact decide_eq_false (Nat.not_lt.mpr c48)))] at h
          exact X.keep [0, 1, 2, 3] rfl h
        · skip
          refine x_iload (pc := 51) dX6_yielded_51 rfl ?_
          refine x_aload_n (pc := 53) dX6_yielded_53 rfl rfl ?_
          refine x_get (pc := 54) dX6_yielded_54 kf_RX6_41 s0 rfl ?_
          rw [ht2]
          refine x_callSN (pc := 57) (As := [.int _, .int _]) dX6_yielded_57 km_X9_roundOf ks_X9_roundOf kn_RX6_99 rfl (by decide) ⟨Nat.le_refl _, Nat.le_refl _⟩ rfl (Nat.le_of_ble_eq_true rfl) (Nat.le_of_ble_eq_true rfl) (c_roundOf hz36 ht (⟨rfl, rfl, ?_⟩))
          have := rnd_lt hz36 ht
          refine x_istore_n (pc := 60) (lv' := [(0, .ref b), (1, .int (nI own)), (2, .int (nI (rnd z ta))), (3, .int (nI i)), (4, .int (nI z))]) dX6_yielded_60 rfl (by decide) rfl ?_
          refine x_aload_n (pc := 61) dX6_yielded_61 rfl rfl ?_
          refine x_iload (pc := 62) dX6_yielded_62 rfl ?_
          refine x_put (pc := 64) dX6_yielded_64 kf_RX6_65 s0 rfl (Or.inl kb_6_14) ?_
          refine x_iinc (pc := 67) (v := nI (i + 1)) (lv' := [(0, .ref b), (1, .int (nI own)), (2, .int (nI (rnd z ta))), (3, .int (nI (i + 1))), (4, .int (nI z))]) dX6_yielded_67 rfl (nI_1 _) (by decide) rfl ?_
          refine x_goto (pc := 70) (tgt := 11) dX6_yielded_70 (by decide) ?_
          have h := ih (i + 1) (by omega)
          rw [show yPk nb ce ta own (i + 1) = z from pick_yes hnx (by unfold yOk; rw [hf]; rfl) (by unfold yBet; exact decide_eq_true c48)] at h
          rw [up2_up2]
          exact X.keep [0, 1, 2, 3] rfl h
    · skip
      refine x_istore (pc := 21) (lv' := [(0, .ref b), (1, .int (nI own)), (2, .int (nI (rnd (yPk nb ce ta own i) ta))), (3, .int (nI i)), (4, .int (-1))]) dX6_yielded_21 (by decide) rfl ?_
      refine x_iload (pc := 23) dX6_yielded_23 rfl ?_
      refine x_iconst (pc := 25) (v := -1) dX6_yielded_25 (by decide) ?_
      refine x_icmp_eq_t (pc := 26) (tgt := 67) dX6_yielded_26 (by decide) (by decide) ?_
      refine x_iinc (pc := 67) (v := nI (i + 1)) (lv' := [(0, .ref b), (1, .int (nI own)), (2, .int (nI (rnd (yPk nb ce ta own i) ta))), (3, .int (nI (i + 1))), (4, .int (-1))]) dX6_yielded_67 rfl (nI_1 _) (by decide) rfl ?_
      refine x_goto (pc := 70) (tgt := 11) dX6_yielded_70 (by decide) ?_
      have h := ih (i + 1) (by omega)
      rw [show yPk nb ce ta own (i + 1) = yPk nb ce ta own i from pick_none hno] at h
      exact X.keep [0, 1, 2, 3] rfl h

set_option maxHeartbeats 4000000 in
set_option maxRecDepth 100000 in
theorem c_yielded {T : xT} {n : Nat} {sh : Nat → Nat × Nat} {I : xI} {R : xR} {L : xL} {P : xPost} {b nb own : Nat} {ce : Nat → Nat} (hS : xScene sh R b) (hc : bRow I (b + 5) nb ce) (hn6 : nb ≤ 6) (hce : ∀ i, i < nb → ce i < 36) (ho : own < 36) {ta : Nat} (hta : I b 8 = nI ta) (ht : ta < 36) (ha : I b 14 = nI own) (K1 : ¬ yPk nb ce ta own 4 = own → P (n, sh, 0, 0) (up2 I b 14 (nI (yPk nb ce ta own 4))) R L (some (.int 1))) (K2 : yPk nb ce ta own 4 = own → P (n, sh, 0, 0) I R L (some (.int 0))) : XM T zX6_yielded 2 [.ref b, .int (nI own)] n sh I R L P := by
  have hS0 := hS
  obtain ⟨s0, sl, rl, f0, f1, f2, f3, f4, f5, f6, f7, w0, w1, w2, w3, w4, w5, w6, w7⟩ := hS
  refine x_iload_n (pc := 0) dX6_yielded_0 rfl rfl ?_
  refine x_aload_n (pc := 1) dX6_yielded_1 rfl rfl ?_
  refine x_get (pc := 2) dX6_yielded_2 kf_RX6_41 s0 rfl ?_
  rw [hta]
  refine x_callSN (pc := 5) (As := [.int _, .int _]) dX6_yielded_5 km_X9_roundOf ks_X9_roundOf kn_RX6_99 rfl (by decide) ⟨Nat.le_refl _, Nat.le_refl _⟩ rfl (Nat.le_of_ble_eq_true rfl) (Nat.le_of_ble_eq_true rfl) (c_roundOf ho ht (⟨rfl, rfl, ?_⟩))
  have := rnd_lt ho ht
  refine x_istore_n (pc := 8) (lv' := [(0, .ref b), (1, .int (nI own)), (2, .int (nI (rnd own ta)))]) dX6_yielded_8 rfl (by decide) rfl ?_
  refine x_iconst (pc := 9) (v := 0) dX6_yielded_9 (by decide) ?_
  refine x_istore_n (pc := 10) (lv' := [(0, .ref b), (1, .int (nI own)), (2, .int (nI (rnd own ta))), (3, .int 0)]) dX6_yielded_10 rfl (by decide) rfl ?_
  refine X.heap (up2_self ha).symm ?_
  exact l_yielded hS0 hc hn6 hce ho hta ht ha K1 K2 4 0 (by omega)

set_option maxHeartbeats 4000000 in
set_option maxRecDepth 100000 in
theorem l_cameTo_in {T : xT} {n : Nat} {sh : Nat → Nat × Nat} {I : xI} {R : xR} {L : xL} {P : xPost} {b nb own : Nat} {ce : Nat → Nat} (hS : xScene sh R b) (hc : bRow I (b + 5) nb ce) (hn6 : nb ≤ 6) (hce : ∀ i, i < nb → ce i < 36) (ho : own < 36) {ta : Nat} (hta : I b 8 = nI ta) (ht : ta < 36) (ha : I b 14 = nI own) {goal : Nat} (hg : goal < 36) (K1 : ¬ cPk nb ce true ta goal own 4 = own → P (n, sh, 0, 0) (up2 I b 14 (nI (cPk nb ce true ta goal own 4))) R L (some (.int 1))) (K2 : cPk nb ce true ta goal own 4 = own → P (n, sh, 0, 0) I R L (some (.int 0))) : ∀ (w i : Nat), i + w = 4 → X T zX6_cameTo 2 0 0 P 10 [(0, .ref b), (1, .int (nI goal)), (2, .int (nI own)), (3, .int 1), (4, .int (nI (rnd (cPk nb ce true ta goal own i) goal))), (5, .int (nI i))] [] (n, sh, 0, 0) (up2 I b 14 (nI (cPk nb ce true ta goal own i))) R L := by
  have hS0 := hS
  obtain ⟨s0, sl, rl, f0, f1, f2, f3, f4, f5, f6, f7, w0, w1, w2, w3, w4, w5, w6, w7⟩ := hS
  have hc2 : ∀ z, bRow (up2 I b 14 z) (b + 5) nb ce := fun z => hc.keep (up2_row (by omega)) (up2_row (by omega))
  have ht2 : ∀ z, up2 I b 14 z b 8 = nI ta := fun z => by rw [up2_k (by decide)]; exact hta
  intro w
  induction w with
  | zero =>
    intro i hw
    have hz : i = 4 := by omega
    have hpl : cPk nb ce true ta goal own i < 36 := pick_lt ho i
    refine x_iload (pc := 10) dX6_cameTo_10 rfl ?_
    refine x_iconst (pc := 12) (v := 4) dX6_cameTo_12 (by decide) ?_
    refine x_icmpn_ge_t (pc := 13) (tgt := 95) (a := i) (b := 4) dX6_cameTo_13 (by decide) (by omega) (by decide) (by omega) ?_
    refine x_aload_n (pc := 95) dX6_cameTo_95 rfl rfl ?_
    refine x_get (pc := 96) dX6_cameTo_96 kf_RX6_65 s0 rfl ?_
    rw [up2_s]
    refine x_iload_n (pc := 99) dX6_cameTo_99 rfl rfl ?_
    refine x_icmpn_eq (pc := 100) (tgt := 107) (a := (cPk nb ce true ta goal own i)) (b := own) dX6_cameTo_100 (by decide) (by omega) (by omega) (fun c100 => ?_) (fun c100 => ?_)
    · skip
      refine x_iconst (pc := 107) (v := 0) dX6_cameTo_107 (by decide) ?_
      refine x_ireturn (pc := 108) dX6_cameTo_108 ⟨_, rfl, by decide⟩ ⟨Nat.le_refl _, Nat.le_refl _⟩ ?_
      rw [hz] at c100 ⊢
      rw [c100]
      exact xvI (K2 c100) (up2_self ha).symm
    · skip
      refine x_iconst (pc := 103) (v := 1) dX6_cameTo_103 (by decide) ?_
      refine x_goto (pc := 104) (tgt := 108) dX6_cameTo_104 (by decide) ?_
      refine x_ireturn (pc := 108) dX6_cameTo_108 ⟨_, rfl, by decide⟩ ⟨Nat.le_refl _, Nat.le_refl _⟩ ?_
      rw [hz] at c100 ⊢
      exact K1 c100
  | succ w ih =>
    intro i hw
    have hi : i < 4 := by omega
    have hpl : cPk nb ce true ta goal own i < 36 := pick_lt ho i
    have hrl := rnd_lt hpl hg
    refine x_iload (pc := 10) dX6_cameTo_10 rfl ?_
    refine x_iconst (pc := 12) (v := 4) dX6_cameTo_12 (by decide) ?_
    refine x_icmpn_ge_f (pc := 13) (tgt := 95) (a := i) (b := 4) dX6_cameTo_13 (by decide) (by omega) (by decide) (by omega) ?_
    refine x_iload_n (pc := 16) dX6_cameTo_16 rfl rfl ?_
    refine x_iload (pc := 17) dX6_cameTo_17 rfl ?_
    refine x_callSN (pc := 19) (As := [.int _, .int _]) dX6_cameTo_19 km_X9_nextTo ks_X9_nextTo kn_RX6_153 rfl (by decide) ⟨Nat.le_refl _, Nat.le_refl _⟩ rfl (Nat.le_of_ble_eq_true rfl) (Nat.le_of_ble_eq_true rfl) (c_nextTo ho hi (fun z hnx => ⟨rfl, rfl, ?_⟩) (fun hno => ⟨rfl, rfl, ?_⟩))
    · skip
      have hz36 := nxt_lt ho hnx
      refine x_istore (pc := 22) (lv' := [(0, .ref b), (1, .int (nI goal)), (2, .int (nI own)), (3, .int 1), (4, .int (nI (rnd (cPk nb ce true ta goal own i) goal))), (5, .int (nI i)), (6, .int (nI z))]) dX6_cameTo_22 (by decide) rfl ?_
      refine x_iload (pc := 24) dX6_cameTo_24 rfl ?_
      refine x_iconst (pc := 26) (v := -1) dX6_cameTo_26 (by decide) ?_
      refine x_icmp_eq_f (pc := 27) (tgt := 56) dX6_cameTo_27 (by decide) (nI_nem (by omega)) ?_
      refine x_aload_n (pc := 30) dX6_cameTo_30 rfl rfl ?_
      refine x_iload (pc := 31) dX6_cameTo_31 rfl ?_
      refine x_callV (pc := 33) (As := [.int _]) dX6_cameTo_33 km_X6_holdsBeast kv_X6_holdsBeast kl_RX6_85 s0 rfl rfl (by decide) ⟨Nat.le_refl _, Nat.le_refl _⟩ rfl (Nat.le_of_ble_eq_true rfl) (Nat.le_of_ble_eq_true rfl) (c_holdsBeast (x := z) hS0 (hc2 _) hn6 hce hz36 (fun hh => ⟨rfl, rfl, ?_⟩) (fun hf => ⟨rfl, rfl, ?_⟩))
      · skip
        refine x_if_ne_t (pc := 36) (tgt := 56) dX6_cameTo_36 (by decide) (by decide) ?_
        refine x_iconst (pc := 56) (v := 0) dX6_cameTo_56 (by decide) ?_
        refine x_istore (pc := 57) (lv' := [(0, .ref b), (1, .int (nI goal)), (2, .int (nI own)), (3, .int 1), (4, .int (nI (rnd (cPk nb ce true ta goal own i) goal))), (5, .int (nI i)), (6, .int (nI z)), (7, .int 0)]) dX6_cameTo_57 (by decide) rfl ?_
        refine x_iload (pc := 59) dX6_cameTo_59 rfl ?_
        refine x_if_eq_t (pc := 61) (tgt := 89) dX6_cameTo_61 (by decide) (by decide) ?_
        refine x_iinc (pc := 89) (v := nI (i + 1)) (lv' := [(0, .ref b), (1, .int (nI goal)), (2, .int (nI own)), (3, .int 1), (4, .int (nI (rnd (cPk nb ce true ta goal own i) goal))), (5, .int (nI (i + 1))), (6, .int (nI z)), (7, .int 0)]) dX6_cameTo_89 rfl (nI_1 _) (by decide) rfl ?_
        refine x_goto (pc := 92) (tgt := 10) dX6_cameTo_92 (by decide) ?_
        have h := ih (i + 1) (by omega)
        rw [show cPk nb ce true ta goal own (i + 1) = cPk nb ce true ta goal own i from pick_no hnx (Or.inl (by unfold cOk; rw [hh]; rfl))] at h
        exact X.keep [0, 1, 2, 3, 4, 5] rfl h
      · skip
        refine x_if_ne_f (pc := 36) (tgt := 56) dX6_cameTo_36 (by decide) (by decide) ?_
        refine x_iload_n (pc := 39) dX6_cameTo_39 rfl rfl ?_
        refine x_if_ne_t (pc := 40) (tgt := 52) dX6_cameTo_40 (by decide) (by decide) ?_
        refine x_iconst (pc := 52) (v := 1) dX6_cameTo_52 (by decide) ?_
        refine x_goto (pc := 53) (tgt := 57) dX6_cameTo_53 (by decide) ?_
        refine x_istore (pc := 57) (lv' := [(0, .ref b), (1, .int (nI goal)), (2, .int (nI own)), (3, .int 1), (4, .int (nI (rnd (cPk nb ce true ta goal own i) goal))), (5, .int (nI i)), (6, .int (nI z)), (7, .int 1)]) dX6_cameTo_57 (by decide) rfl ?_
        refine x_iload (pc := 59) dX6_cameTo_59 rfl ?_
        refine x_if_eq_f (pc := 61) (tgt := 89) dX6_cameTo_61 (by decide) (by decide) ?_
        refine x_iload (pc := 64) dX6_cameTo_64 rfl ?_
        refine x_iload_n (pc := 66) dX6_cameTo_66 rfl rfl ?_
        refine x_callSN (pc := 67) (As := [.int _, .int _]) dX6_cameTo_67 km_X9_roundOf ks_X9_roundOf kn_RX6_99 rfl (by decide) ⟨Nat.le_refl _, Nat.le_refl _⟩ rfl (Nat.le_of_ble_eq_true rfl) (Nat.le_of_ble_eq_true rfl) (c_roundOf hz36 hg (⟨rfl, rfl, ?_⟩))
        have := rnd_lt hz36 hg
        refine x_iload (pc := 70) dX6_cameTo_70 rfl ?_
        refine x_icmpn_ge (pc := 72) (tgt := 89) (a := (rnd z goal)) (b := (rnd (cPk nb ce true ta goal own i) goal)) dX6_cameTo_72 (by decide) (by omega) (by omega) (fun c72 => ?_) (fun c72 => ?_)
        · skip
          refine x_iinc (pc := 89) (v := nI (i + 1)) (lv' := [(0, .ref b), (1, .int (nI goal)), (2, .int (nI own)), (3, .int 1), (4, .int (nI (rnd (cPk nb ce true ta goal own i) goal))), (5, .int (nI (i + 1))), (6, .int (nI z)), (7, .int 1)]) dX6_cameTo_89 rfl (nI_1 _) (by decide) rfl ?_
          refine x_goto (pc := 92) (tgt := 10) dX6_cameTo_92 (by decide) ?_
          have h := ih (i + 1) (by omega)
          rw [show cPk nb ce true ta goal own (i + 1) = cPk nb ce true ta goal own i from pick_no hnx (Or.inr (by unfold cBet; exact decide_eq_false (Nat.not_lt.mpr c72)))] at h
          exact X.keep [0, 1, 2, 3, 4, 5] rfl h
        · skip
          refine x_iload (pc := 75) dX6_cameTo_75 rfl ?_
          refine x_iload_n (pc := 77) dX6_cameTo_77 rfl rfl ?_
          refine x_callSN (pc := 78) (As := [.int _, .int _]) dX6_cameTo_78 km_X9_roundOf ks_X9_roundOf kn_RX6_99 rfl (by decide) ⟨Nat.le_refl _, Nat.le_refl _⟩ rfl (Nat.le_of_ble_eq_true rfl) (Nat.le_of_ble_eq_true rfl) (c_roundOf hz36 hg (⟨rfl, rfl, ?_⟩))
          have := rnd_lt hz36 hg
          refine x_istore (pc := 81) (lv' := [(0, .ref b), (1, .int (nI goal)), (2, .int (nI own)), (3, .int 1), (4, .int (nI (rnd z goal))), (5, .int (nI i)), (6, .int (nI z)), (7, .int 1)]) dX6_cameTo_81 (by decide) rfl ?_
          refine x_aload_n (pc := 83) dX6_cameTo_83 rfl rfl ?_
          refine x_iload (pc := 84) dX6_cameTo_84 rfl ?_
          refine x_put (pc := 86) dX6_cameTo_86 kf_RX6_65 s0 rfl (Or.inl kb_6_14) ?_
          refine x_iinc (pc := 89) (v := nI (i + 1)) (lv' := [(0, .ref b), (1, .int (nI goal)), (2, .int (nI own)), (3, .int 1), (4, .int (nI (rnd z goal))), (5, .int (nI (i + 1))), (6, .int (nI z)), (7, .int 1)]) dX6_cameTo_89 rfl (nI_1 _) (by decide) rfl ?_
          refine x_goto (pc := 92) (tgt := 10) dX6_cameTo_92 (by decide) ?_
          have h := ih (i + 1) (by omega)
          rw [show cPk nb ce true ta goal own (i + 1) = z from pick_yes hnx (by unfold cOk; rw [hf]; simp) (by unfold cBet; exact decide_eq_true c72)] at h
          rw [up2_up2]
          exact X.keep [0, 1, 2, 3, 4, 5] rfl h
    · skip
      refine x_istore (pc := 22) (lv' := [(0, .ref b), (1, .int (nI goal)), (2, .int (nI own)), (3, .int 1), (4, .int (nI (rnd (cPk nb ce true ta goal own i) goal))), (5, .int (nI i)), (6, .int (-1))]) dX6_cameTo_22 (by decide) rfl ?_
      refine x_iload (pc := 24) dX6_cameTo_24 rfl ?_
      refine x_iconst (pc := 26) (v := -1) dX6_cameTo_26 (by decide) ?_
      refine x_icmp_eq_t (pc := 27) (tgt := 56) dX6_cameTo_27 (by decide) (by decide) ?_
      refine x_iconst (pc := 56) (v := 0) dX6_cameTo_56 (by decide) ?_
      refine x_istore (pc := 57) (lv' := [(0, .ref b), (1, .int (nI goal)), (2, .int (nI own)), (3, .int 1), (4, .int (nI (rnd (cPk nb ce true ta goal own i) goal))), (5, .int (nI i)), (6, .int (-1)), (7, .int 0)]) dX6_cameTo_57 (by decide) rfl ?_
      refine x_iload (pc := 59) dX6_cameTo_59 rfl ?_
      refine x_if_eq_t (pc := 61) (tgt := 89) dX6_cameTo_61 (by decide) (by decide) ?_
      refine x_iinc (pc := 89) (v := nI (i + 1)) (lv' := [(0, .ref b), (1, .int (nI goal)), (2, .int (nI own)), (3, .int 1), (4, .int (nI (rnd (cPk nb ce true ta goal own i) goal))), (5, .int (nI (i + 1))), (6, .int (-1)), (7, .int 0)]) dX6_cameTo_89 rfl (nI_1 _) (by decide) rfl ?_
      refine x_goto (pc := 92) (tgt := 10) dX6_cameTo_92 (by decide) ?_
      have h := ih (i + 1) (by omega)
      rw [show cPk nb ce true ta goal own (i + 1) = cPk nb ce true ta goal own i from pick_none hno] at h
      exact X.keep [0, 1, 2, 3, 4, 5] rfl h

set_option maxHeartbeats 4000000 in
set_option maxRecDepth 100000 in
theorem c_cameTo_in {T : xT} {n : Nat} {sh : Nat → Nat × Nat} {I : xI} {R : xR} {L : xL} {P : xPost} {b nb own : Nat} {ce : Nat → Nat} (hS : xScene sh R b) (hc : bRow I (b + 5) nb ce) (hn6 : nb ≤ 6) (hce : ∀ i, i < nb → ce i < 36) (ho : own < 36) {ta : Nat} (hta : I b 8 = nI ta) (ht : ta < 36) (ha : I b 14 = nI own) {goal : Nat} (hg : goal < 36) (K1 : ¬ cPk nb ce true ta goal own 4 = own → P (n, sh, 0, 0) (up2 I b 14 (nI (cPk nb ce true ta goal own 4))) R L (some (.int 1))) (K2 : cPk nb ce true ta goal own 4 = own → P (n, sh, 0, 0) I R L (some (.int 0))) : XM T zX6_cameTo 2 [.ref b, .int (nI goal), .int (nI own), .int 1] n sh I R L P := by
  have hS0 := hS
  obtain ⟨s0, sl, rl, f0, f1, f2, f3, f4, f5, f6, f7, w0, w1, w2, w3, w4, w5, w6, w7⟩ := hS
  refine x_iload_n (pc := 0) dX6_cameTo_0 rfl rfl ?_
  refine x_iload_n (pc := 1) dX6_cameTo_1 rfl rfl ?_
  refine x_callSN (pc := 2) (As := [.int _, .int _]) dX6_cameTo_2 km_X9_roundOf ks_X9_roundOf kn_RX6_99 rfl (by decide) ⟨Nat.le_refl _, Nat.le_refl _⟩ rfl (Nat.le_of_ble_eq_true rfl) (Nat.le_of_ble_eq_true rfl) (c_roundOf ho hg (⟨rfl, rfl, ?_⟩))
  have := rnd_lt ho hg
  refine x_istore (pc := 5) (lv' := [(0, .ref b), (1, .int (nI goal)), (2, .int (nI own)), (3, .int 1), (4, .int (nI (rnd own goal)))]) dX6_cameTo_5 (by decide) rfl ?_
  refine x_iconst (pc := 7) (v := 0) dX6_cameTo_7 (by decide) ?_
  refine x_istore (pc := 8) (lv' := [(0, .ref b), (1, .int (nI goal)), (2, .int (nI own)), (3, .int 1), (4, .int (nI (rnd own goal))), (5, .int 0)]) dX6_cameTo_8 (by decide) rfl ?_
  refine X.heap (up2_self ha).symm ?_
  exact l_cameTo_in hS0 hc hn6 hce ho hta ht ha hg K1 K2 4 0 (by omega)

set_option maxHeartbeats 4000000 in
set_option maxRecDepth 100000 in
theorem l_cameTo_out {T : xT} {n : Nat} {sh : Nat → Nat × Nat} {I : xI} {R : xR} {L : xL} {P : xPost} {b nb own : Nat} {ce : Nat → Nat} (hS : xScene sh R b) (hc : bRow I (b + 5) nb ce) (hn6 : nb ≤ 6) (hce : ∀ i, i < nb → ce i < 36) (ho : own < 36) {ta : Nat} (hta : I b 8 = nI ta) (ht : ta < 36) (ha : I b 14 = nI own) {goal : Nat} (hg : goal < 36) (K1 : ¬ cPk nb ce false ta goal own 4 = own → P (n, sh, 0, 0) (up2 I b 14 (nI (cPk nb ce false ta goal own 4))) R L (some (.int 1))) (K2 : cPk nb ce false ta goal own 4 = own → P (n, sh, 0, 0) I R L (some (.int 0))) : ∀ (w i : Nat), i + w = 4 → X T zX6_cameTo 2 0 0 P 10 [(0, .ref b), (1, .int (nI goal)), (2, .int (nI own)), (3, .int 0), (4, .int (nI (rnd (cPk nb ce false ta goal own i) goal))), (5, .int (nI i))] [] (n, sh, 0, 0) (up2 I b 14 (nI (cPk nb ce false ta goal own i))) R L := by
  have hS0 := hS
  obtain ⟨s0, sl, rl, f0, f1, f2, f3, f4, f5, f6, f7, w0, w1, w2, w3, w4, w5, w6, w7⟩ := hS
  have hc2 : ∀ z, bRow (up2 I b 14 z) (b + 5) nb ce := fun z => hc.keep (up2_row (by omega)) (up2_row (by omega))
  have ht2 : ∀ z, up2 I b 14 z b 8 = nI ta := fun z => by rw [up2_k (by decide)]; exact hta
  intro w
  induction w with
  | zero =>
    intro i hw
    have hz : i = 4 := by omega
    have hpl : cPk nb ce false ta goal own i < 36 := pick_lt ho i
    refine x_iload (pc := 10) dX6_cameTo_10 rfl ?_
    refine x_iconst (pc := 12) (v := 4) dX6_cameTo_12 (by decide) ?_
    refine x_icmpn_ge_t (pc := 13) (tgt := 95) (a := i) (b := 4) dX6_cameTo_13 (by decide) (by omega) (by decide) (by omega) ?_
    refine x_aload_n (pc := 95) dX6_cameTo_95 rfl rfl ?_
    refine x_get (pc := 96) dX6_cameTo_96 kf_RX6_65 s0 rfl ?_
    rw [up2_s]
    refine x_iload_n (pc := 99) dX6_cameTo_99 rfl rfl ?_
    refine x_icmpn_eq (pc := 100) (tgt := 107) (a := (cPk nb ce false ta goal own i)) (b := own) dX6_cameTo_100 (by decide) (by omega) (by omega) (fun c100 => ?_) (fun c100 => ?_)
    · skip
      refine x_iconst (pc := 107) (v := 0) dX6_cameTo_107 (by decide) ?_
      refine x_ireturn (pc := 108) dX6_cameTo_108 ⟨_, rfl, by decide⟩ ⟨Nat.le_refl _, Nat.le_refl _⟩ ?_
      rw [hz] at c100 ⊢
      rw [c100]
      exact xvI (K2 c100) (up2_self ha).symm
    · skip
      refine x_iconst (pc := 103) (v := 1) dX6_cameTo_103 (by decide) ?_
      refine x_goto (pc := 104) (tgt := 108) dX6_cameTo_104 (by decide) ?_
      refine x_ireturn (pc := 108) dX6_cameTo_108 ⟨_, rfl, by decide⟩ ⟨Nat.le_refl _, Nat.le_refl _⟩ ?_
      rw [hz] at c100 ⊢
      exact K1 c100
  | succ w ih =>
    intro i hw
    have hi : i < 4 := by omega
    have hpl : cPk nb ce false ta goal own i < 36 := pick_lt ho i
    have hrl := rnd_lt hpl hg
    refine x_iload (pc := 10) dX6_cameTo_10 rfl ?_
    refine x_iconst (pc := 12) (v := 4) dX6_cameTo_12 (by decide) ?_
    refine x_icmpn_ge_f (pc := 13) (tgt := 95) (a := i) (b := 4) dX6_cameTo_13 (by decide) (by omega) (by decide) (by omega) ?_
    refine x_iload_n (pc := 16) dX6_cameTo_16 rfl rfl ?_
    refine x_iload (pc := 17) dX6_cameTo_17 rfl ?_
    refine x_callSN (pc := 19) (As := [.int _, .int _]) dX6_cameTo_19 km_X9_nextTo ks_X9_nextTo kn_RX6_153 rfl (by decide) ⟨Nat.le_refl _, Nat.le_refl _⟩ rfl (Nat.le_of_ble_eq_true rfl) (Nat.le_of_ble_eq_true rfl) (c_nextTo ho hi (fun z hnx => ⟨rfl, rfl, ?_⟩) (fun hno => ⟨rfl, rfl, ?_⟩))
    · skip
      have hz36 := nxt_lt ho hnx
      refine x_istore (pc := 22) (lv' := [(0, .ref b), (1, .int (nI goal)), (2, .int (nI own)), (3, .int 0), (4, .int (nI (rnd (cPk nb ce false ta goal own i) goal))), (5, .int (nI i)), (6, .int (nI z))]) dX6_cameTo_22 (by decide) rfl ?_
      refine x_iload (pc := 24) dX6_cameTo_24 rfl ?_
      refine x_iconst (pc := 26) (v := -1) dX6_cameTo_26 (by decide) ?_
      refine x_icmp_eq_f (pc := 27) (tgt := 56) dX6_cameTo_27 (by decide) (nI_nem (by omega)) ?_
      refine x_aload_n (pc := 30) dX6_cameTo_30 rfl rfl ?_
      refine x_iload (pc := 31) dX6_cameTo_31 rfl ?_
      refine x_callV (pc := 33) (As := [.int _]) dX6_cameTo_33 km_X6_holdsBeast kv_X6_holdsBeast kl_RX6_85 s0 rfl rfl (by decide) ⟨Nat.le_refl _, Nat.le_refl _⟩ rfl (Nat.le_of_ble_eq_true rfl) (Nat.le_of_ble_eq_true rfl) (c_holdsBeast (x := z) hS0 (hc2 _) hn6 hce hz36 (fun hh => ⟨rfl, rfl, ?_⟩) (fun hf => ⟨rfl, rfl, ?_⟩))
      · skip
        refine x_if_ne_t (pc := 36) (tgt := 56) dX6_cameTo_36 (by decide) (by decide) ?_
        refine x_iconst (pc := 56) (v := 0) dX6_cameTo_56 (by decide) ?_
        refine x_istore (pc := 57) (lv' := [(0, .ref b), (1, .int (nI goal)), (2, .int (nI own)), (3, .int 0), (4, .int (nI (rnd (cPk nb ce false ta goal own i) goal))), (5, .int (nI i)), (6, .int (nI z)), (7, .int 0)]) dX6_cameTo_57 (by decide) rfl ?_
        refine x_iload (pc := 59) dX6_cameTo_59 rfl ?_
        refine x_if_eq_t (pc := 61) (tgt := 89) dX6_cameTo_61 (by decide) (by decide) ?_
        refine x_iinc (pc := 89) (v := nI (i + 1)) (lv' := [(0, .ref b), (1, .int (nI goal)), (2, .int (nI own)), (3, .int 0), (4, .int (nI (rnd (cPk nb ce false ta goal own i) goal))), (5, .int (nI (i + 1))), (6, .int (nI z)), (7, .int 0)]) dX6_cameTo_89 rfl (nI_1 _) (by decide) rfl ?_
        refine x_goto (pc := 92) (tgt := 10) dX6_cameTo_92 (by decide) ?_
        have h := ih (i + 1) (by omega)
        rw [show cPk nb ce false ta goal own (i + 1) = cPk nb ce false ta goal own i from pick_no hnx (Or.inl (by unfold cOk; rw [hh]; rfl))] at h
        exact X.keep [0, 1, 2, 3, 4, 5] rfl h
      · skip
        refine x_if_ne_f (pc := 36) (tgt := 56) dX6_cameTo_36 (by decide) (by decide) ?_
        refine x_iload_n (pc := 39) dX6_cameTo_39 rfl rfl ?_
        refine x_if_ne_f (pc := 40) (tgt := 52) dX6_cameTo_40 (by decide) (by decide) ?_
        refine x_iload (pc := 43) dX6_cameTo_43 rfl ?_
        refine x_aload_n (pc := 45) dX6_cameTo_45 rfl rfl ?_
        refine x_get (pc := 46) dX6_cameTo_46 kf_RX6_41 s0 rfl ?_
        rw [ht2]
        refine x_icmpn_eq (pc := 49) (tgt := 56) (a := z) (b := ta) dX6_cameTo_49 (by decide) (by omega) (by omega) (fun c49 => ?_) (fun c49 => ?_)
        · skip
          refine x_iconst (pc := 56) (v := 0) dX6_cameTo_56 (by decide) ?_
          refine x_istore (pc := 57) (lv' := [(0, .ref b), (1, .int (nI goal)), (2, .int (nI own)), (3, .int 0), (4, .int (nI (rnd (cPk nb ce false ta goal own i) goal))), (5, .int (nI i)), (6, .int (nI z)), (7, .int 0)]) dX6_cameTo_57 (by decide) rfl ?_
          refine x_iload (pc := 59) dX6_cameTo_59 rfl ?_
          refine x_if_eq_t (pc := 61) (tgt := 89) dX6_cameTo_61 (by decide) (by decide) ?_
          refine x_iinc (pc := 89) (v := nI (i + 1)) (lv' := [(0, .ref b), (1, .int (nI goal)), (2, .int (nI own)), (3, .int 0), (4, .int (nI (rnd (cPk nb ce false ta goal own i) goal))), (5, .int (nI (i + 1))), (6, .int (nI z)), (7, .int 0)]) dX6_cameTo_89 rfl (nI_1 _) (by decide) rfl ?_
          refine x_goto (pc := 92) (tgt := 10) dX6_cameTo_92 (by decide) ?_
          have h := ih (i + 1) (by omega)
          rw [show cPk nb ce false ta goal own (i + 1) = cPk nb ce false ta goal own i from pick_no hnx (Or.inl (by unfold cOk; rw [hf]; simp [c49]))] at h
          exact X.keep [0, 1, 2, 3, 4, 5] rfl h
        · skip
          refine x_iconst (pc := 52) (v := 1) dX6_cameTo_52 (by decide) ?_
          refine x_goto (pc := 53) (tgt := 57) dX6_cameTo_53 (by decide) ?_
          refine x_istore (pc := 57) (lv' := [(0, .ref b), (1, .int (nI goal)), (2, .int (nI own)), (3, .int 0), (4, .int (nI (rnd (cPk nb ce false ta goal own i) goal))), (5, .int (nI i)), (6, .int (nI z)), (7, .int 1)]) dX6_cameTo_57 (by decide) rfl ?_
          refine x_iload (pc := 59) dX6_cameTo_59 rfl ?_
          refine x_if_eq_f (pc := 61) (tgt := 89) dX6_cameTo_61 (by decide) (by decide) ?_
          refine x_iload (pc := 64) dX6_cameTo_64 rfl ?_
          refine x_iload_n (pc := 66) dX6_cameTo_66 rfl rfl ?_
          refine x_callSN (pc := 67) (As := [.int _, .int _]) dX6_cameTo_67 km_X9_roundOf ks_X9_roundOf kn_RX6_99 rfl (by decide) ⟨Nat.le_refl _, Nat.le_refl _⟩ rfl (Nat.le_of_ble_eq_true rfl) (Nat.le_of_ble_eq_true rfl) (c_roundOf hz36 hg (⟨rfl, rfl, ?_⟩))
          have := rnd_lt hz36 hg
          refine x_iload (pc := 70) dX6_cameTo_70 rfl ?_
          refine x_icmpn_ge (pc := 72) (tgt := 89) (a := (rnd z goal)) (b := (rnd (cPk nb ce false ta goal own i) goal)) dX6_cameTo_72 (by decide) (by omega) (by omega) (fun c72 => ?_) (fun c72 => ?_)
          · skip
            refine x_iinc (pc := 89) (v := nI (i + 1)) (lv' := [(0, .ref b), (1, .int (nI goal)), (2, .int (nI own)), (3, .int 0), (4, .int (nI (rnd (cPk nb ce false ta goal own i) goal))), (5, .int (nI (i + 1))), (6, .int (nI z)), (7, .int 1)]) dX6_cameTo_89 rfl (nI_1 _) (by decide) rfl ?_
            refine x_goto (pc := 92) (tgt := 10) dX6_cameTo_92 (by decide) ?_
            have h := ih (i + 1) (by omega)
            rw [show cPk nb ce false ta goal own (i + 1) = cPk nb ce false ta goal own i from pick_no hnx (Or.inr (by unfold cBet; exact decide_eq_false (Nat.not_lt.mpr c72)))] at h
            exact X.keep [0, 1, 2, 3, 4, 5] rfl h
          · skip
            refine x_iload (pc := 75) dX6_cameTo_75 rfl ?_
            refine x_iload_n (pc := 77) dX6_cameTo_77 rfl rfl ?_
            refine x_callSN (pc := 78) (As := [.int _, .int _]) dX6_cameTo_78 km_X9_roundOf ks_X9_roundOf kn_RX6_99 rfl (by decide) ⟨Nat.le_refl _, Nat.le_refl _⟩ rfl (Nat.le_of_ble_eq_true rfl) (Nat.le_of_ble_eq_true rfl) (c_roundOf hz36 hg (⟨rfl, rfl, ?_⟩))
            have := rnd_lt hz36 hg
            refine x_istore (pc := 81) (lv' := [(0, .ref b), (1, .int (nI goal)), (2, .int (nI own)), (3, .int 0), (4, .int (nI (rnd z goal))), (5, .int (nI i)), (6, .int (nI z)), (7, .int 1)]) dX6_cameTo_81 (by decide) rfl ?_
            refine x_aload_n (pc := 83) dX6_cameTo_83 rfl rfl ?_
            refine x_iload (pc := 84) dX6_cameTo_84 rfl ?_
            refine x_put (pc := 86) dX6_cameTo_86 kf_RX6_65 s0 rfl (Or.inl kb_6_14) ?_
            refine x_iinc (pc := 89) (v := nI (i + 1)) (lv' := [(0, .ref b), (1, .int (nI goal)), (2, .int (nI own)), (3, .int 0), (4, .int (nI (rnd z goal))), (5, .int (nI (i + 1))), (6, .int (nI z)), (7, .int 1)]) dX6_cameTo_89 rfl (nI_1 _) (by decide) rfl ?_
            refine x_goto (pc := 92) (tgt := 10) dX6_cameTo_92 (by decide) ?_
            have h := ih (i + 1) (by omega)
            rw [show cPk nb ce false ta goal own (i + 1) = z from pick_yes hnx (by unfold cOk; rw [hf]; simp [c49]) (by unfold cBet; exact decide_eq_true c72)] at h
            rw [up2_up2]
            exact X.keep [0, 1, 2, 3, 4, 5] rfl h
    · skip
      refine x_istore (pc := 22) (lv' := [(0, .ref b), (1, .int (nI goal)), (2, .int (nI own)), (3, .int 0), (4, .int (nI (rnd (cPk nb ce false ta goal own i) goal))), (5, .int (nI i)), (6, .int (-1))]) dX6_cameTo_22 (by decide) rfl ?_
      refine x_iload (pc := 24) dX6_cameTo_24 rfl ?_
      refine x_iconst (pc := 26) (v := -1) dX6_cameTo_26 (by decide) ?_
      refine x_icmp_eq_t (pc := 27) (tgt := 56) dX6_cameTo_27 (by decide) (by decide) ?_
      refine x_iconst (pc := 56) (v := 0) dX6_cameTo_56 (by decide) ?_
      refine x_istore (pc := 57) (lv' := [(0, .ref b), (1, .int (nI goal)), (2, .int (nI own)), (3, .int 0), (4, .int (nI (rnd (cPk nb ce false ta goal own i) goal))), (5, .int (nI i)), (6, .int (-1)), (7, .int 0)]) dX6_cameTo_57 (by decide) rfl ?_
      refine x_iload (pc := 59) dX6_cameTo_59 rfl ?_
      refine x_if_eq_t (pc := 61) (tgt := 89) dX6_cameTo_61 (by decide) (by decide) ?_
      refine x_iinc (pc := 89) (v := nI (i + 1)) (lv' := [(0, .ref b), (1, .int (nI goal)), (2, .int (nI own)), (3, .int 0), (4, .int (nI (rnd (cPk nb ce false ta goal own i) goal))), (5, .int (nI (i + 1))), (6, .int (-1)), (7, .int 0)]) dX6_cameTo_89 rfl (nI_1 _) (by decide) rfl ?_
      refine x_goto (pc := 92) (tgt := 10) dX6_cameTo_92 (by decide) ?_
      have h := ih (i + 1) (by omega)
      rw [show cPk nb ce false ta goal own (i + 1) = cPk nb ce false ta goal own i from pick_none hno] at h
      exact X.keep [0, 1, 2, 3, 4, 5] rfl h

set_option maxHeartbeats 4000000 in
set_option maxRecDepth 100000 in
theorem c_cameTo_out {T : xT} {n : Nat} {sh : Nat → Nat × Nat} {I : xI} {R : xR} {L : xL} {P : xPost} {b nb own : Nat} {ce : Nat → Nat} (hS : xScene sh R b) (hc : bRow I (b + 5) nb ce) (hn6 : nb ≤ 6) (hce : ∀ i, i < nb → ce i < 36) (ho : own < 36) {ta : Nat} (hta : I b 8 = nI ta) (ht : ta < 36) (ha : I b 14 = nI own) {goal : Nat} (hg : goal < 36) (K1 : ¬ cPk nb ce false ta goal own 4 = own → P (n, sh, 0, 0) (up2 I b 14 (nI (cPk nb ce false ta goal own 4))) R L (some (.int 1))) (K2 : cPk nb ce false ta goal own 4 = own → P (n, sh, 0, 0) I R L (some (.int 0))) : XM T zX6_cameTo 2 [.ref b, .int (nI goal), .int (nI own), .int 0] n sh I R L P := by
  have hS0 := hS
  obtain ⟨s0, sl, rl, f0, f1, f2, f3, f4, f5, f6, f7, w0, w1, w2, w3, w4, w5, w6, w7⟩ := hS
  refine x_iload_n (pc := 0) dX6_cameTo_0 rfl rfl ?_
  refine x_iload_n (pc := 1) dX6_cameTo_1 rfl rfl ?_
  refine x_callSN (pc := 2) (As := [.int _, .int _]) dX6_cameTo_2 km_X9_roundOf ks_X9_roundOf kn_RX6_99 rfl (by decide) ⟨Nat.le_refl _, Nat.le_refl _⟩ rfl (Nat.le_of_ble_eq_true rfl) (Nat.le_of_ble_eq_true rfl) (c_roundOf ho hg (⟨rfl, rfl, ?_⟩))
  have := rnd_lt ho hg
  refine x_istore (pc := 5) (lv' := [(0, .ref b), (1, .int (nI goal)), (2, .int (nI own)), (3, .int 0), (4, .int (nI (rnd own goal)))]) dX6_cameTo_5 (by decide) rfl ?_
  refine x_iconst (pc := 7) (v := 0) dX6_cameTo_7 (by decide) ?_
  refine x_istore (pc := 8) (lv' := [(0, .ref b), (1, .int (nI goal)), (2, .int (nI own)), (3, .int 0), (4, .int (nI (rnd own goal))), (5, .int 0)]) dX6_cameTo_8 (by decide) rfl ?_
  refine X.heap (up2_self ha).symm ?_
  exact l_cameTo_out hS0 hc hn6 hce ho hta ht ha hg K1 K2 4 0 (by omega)

