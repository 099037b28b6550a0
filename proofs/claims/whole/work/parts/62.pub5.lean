/-! ===== beast ===== -/
/-- a beast more -/
def nwB (k v c h : Nat) : Nat → Nat := fun j => if j = 0 then k else if j = 1 then v else if j = 2 then c else if j = 3 then c else if j = 4 then h else 0
def beV (V : xV) (k v c h : Nat) : xV := fun j i => if j < 6 ∧ i = V 8 0 then nwB k v c h j else if j = 8 ∧ i = 0 then V 8 0 + 1 else V j i
section ADDV
variable {V : xV} {k v c h : Nat}
theorem beV_n {j : Nat} (hj : j < 6) : beV V k v c h j (V 8 0) = nwB k v c h j := if_pos ⟨hj, rfl⟩
theorem beV_o {j i : Nat} (hj : j < 6) (hi : i < V 8 0) : beV V k v c h j i = V j i := by
  unfold beV
  rw [if_neg (fun q => by omega), if_neg (fun q => by omega)]
theorem beV_67 {j : Nat} (hj : j = 6 ∨ j = 7) : beV V k v c h j = V j := funext fun i => by
  unfold beV
  rw [if_neg (fun q => by omega), if_neg (fun q => by omega)]
theorem beV_8 : beV V k v c h 8 0 = V 8 0 + 1 := by
  unfold beV
  rw [if_neg (fun q => by omega), if_pos ⟨rfl, rfl⟩]
theorem beV_8o {i : Nat} (hi : ¬ i = 0) : beV V k v c h 8 i = V 8 i := by
  unfold beV
  rw [if_neg (fun q => by omega), if_neg (fun q => hi q.2)]
theorem VOK.oB {B : Nat} (hv : VOK V B) (hn : V 8 0 < 6) (hk : k < 7) (hvv : v < 10) (hc : c < 36) (hh : h < 10) (hs : held (V 8 0) (V 3) c = false) : VOK (beV V k v c h) B := by
  obtain ⟨v6, v12, v10, vb, vf, vw, vm, vta, vte, vod, vrg, vdi⟩ := hv
  have ns : ∀ i, i < V 8 0 → ¬ V 3 i = c := fun i hi e => by
    have := held_t.mpr ⟨i, hi, e⟩
    rw [hs] at this
    cases this
  have n0 : nwB k v c h 0 = k := rfl
  have n1 : nwB k v c h 1 = v := rfl
  have n2 : nwB k v c h 2 = c := rfl
  have n3 : nwB k v c h 3 = c := rfl
  have n4 : nwB k v c h 4 = h := rfl
  have n5 : nwB k v c h 5 = 0 := rfl
  unfold VOK
  rw [beV_8, beV_8o (i := 4) (by decide), beV_8o (i := 5) (by decide), beV_8o (i := 1) (by decide), beV_8o (i := 2) (by decide), beV_8o (i := 3) (by decide), beV_8o (i := 6) (by decide), beV_67 (Or.inl rfl), beV_67 (Or.inr rfl)]
  refine ⟨hn, v12, v10, fun i hi => ?_, fun i hi => ?_, vw, vm, vta, vte, vod, vrg, fun i j hi hj e => ?_⟩
  · rcases Nat.lt_succ_iff_lt_or_eq.mp hi with q | q
    · rw [beV_o (by decide) q, beV_o (by decide) q, beV_o (by decide) q, beV_o (by decide) q, beV_o (by decide) q]
      exact vb i q
    · subst q
      rw [beV_n (by decide), beV_n (by decide), beV_n (by decide), beV_n (by decide), beV_n (by decide), n0, n1, n2, n3, n4]
      exact ⟨hk, hvv, hc, hc, hh⟩
  · rcases Nat.lt_succ_iff_lt_or_eq.mp hi with q | q
    · rw [beV_o (by decide) q]
      exact Nat.lt_of_lt_of_le (vf i q) (Nat.pow_le_pow_right (by decide) (by omega))
    · subst q
      rw [beV_n (by decide), n5]
      exact Nat.pow_pos (by decide)
  · rcases Nat.lt_succ_iff_lt_or_eq.mp hi with q | q <;> rcases Nat.lt_succ_iff_lt_or_eq.mp hj with q2 | q2
    · rw [beV_o (by decide) q, beV_o (by decide) q2] at e
      exact vdi i j q q2 e
    · subst q2
      rw [beV_o (by decide) q, beV_n (by decide), n3] at e
      exact absurd e (ns i q)
    · subst q
      rw [beV_o (by decide) q2, beV_n (by decide), n3] at e
      exact absurd e.symm (ns j q2)
    · omega
theorem bget_0 : ∀ j, j < 6 → bget 0 j = 0 := by decide
theorem bget_hi : ∀ nb, nb < 6 → ∀ w, w < 64 → (w < 2 ^ nb → bget w nb = 0) := by decide +kernel
theorem VSY.oB {B : Nat} (hv : VOK V B) (hy : VSY V) (hn : V 8 0 < 6) : VSY (beV V k v c h) := by
  obtain ⟨v6, v12, v10, vb, vf, vw, vm, vta, vte, vod, vrg, vdi⟩ := hv
  have n5 : nwB k v c h 5 = 0 := rfl
  intro i j hi hj
  rw [beV_8] at hi hj
  rcases Nat.lt_succ_iff_lt_or_eq.mp hi with q | q <;> rcases Nat.lt_succ_iff_lt_or_eq.mp hj with q2 | q2
  · rw [beV_o (by decide) q, beV_o (by decide) q2]
    exact hy i j q q2
  · subst q2
    rw [beV_o (by decide) q, beV_n (by decide), n5, bget_0 i (by omega)]
    exact bget_hi _ hn _ (pw6 (vf i q) v6) (vf i q)
  · subst q
    rw [beV_o (by decide) q2, beV_n (by decide), n5, bget_0 j (by omega)]
    exact (bget_hi _ hn _ (pw6 (vf j q2) v6) (vf j q2)).symm
  · rw [q, q2]
end ADDV
def spBeast (V : xV) (x y z w : Int32) : Int32 × xV := match idx 7 x with
  | none => (-1, V)
  | some k => match idx 36 z with
    | none => (-1, V)
    | some c => match idx 10 y with
      | none => (-2, V)
      | some v => match idx 10 w with
        | none => (-2, V)
        | some h => if held (V 8 0) (V 2) c = true ∨ V 8 1 = c ∨ held (V 8 0) (V 3) c = true then (-3, V) else if V 8 0 < 6 then (nI (V 8 0), beV V k v c h) else (-4, V)
section SPB
variable {V : xV} {x y z w : Int32} {k v c h : Nat}
theorem spB_1 (q : idx 7 x = none) : spBeast V x y z w = (-1, V) := by
  unfold spBeast
  rw [q]
theorem spB_2 (q : idx 36 z = none) : spBeast V x y z w = (-1, V) := by
  unfold spBeast
  cases idx 7 x with
  | none => rfl
  | some k =>
    show (match idx 36 z with | none => _ | some c => _) = _
    rw [q]
theorem spB_3 (hk : k < 7) (hc : c < 36) (q : idx 10 y = none) : spBeast V (nI k) y (nI c) w = (-2, V) := by
  unfold spBeast
  rw [idx_s hk (by decide)]
  show (match idx 36 (nI c) with | none => _ | some c => _) = _
  rw [idx_s hc (by decide)]
  show (match idx 10 y with | none => _ | some c => _) = _
  rw [q]
theorem spB_4 (hk : k < 7) (hc : c < 36) (q : idx 10 w = none) : spBeast V (nI k) y (nI c) w = (-2, V) := by
  unfold spBeast
  rw [idx_s hk (by decide)]
  show (match idx 36 (nI c) with | none => _ | some c => _) = _
  rw [idx_s hc (by decide)]
  show (match idx 10 y with | none => _ | some c => _) = _
  cases idx 10 y with
  | none => rfl
  | some v =>
    show (match idx 10 w with | none => _ | some c => _) = _
    rw [q]
theorem spB_s (hk : k < 7) (hc : c < 36) (hv : v < 10) (hh : h < 10) : spBeast V (nI k) (nI v) (nI c) (nI h) = if held (V 8 0) (V 2) c = true ∨ V 8 1 = c ∨ held (V 8 0) (V 3) c = true then (-3, V) else if V 8 0 < 6 then (nI (V 8 0), beV V k v c h) else (-4, V) := by
  unfold spBeast
  rw [idx_s hk (by decide)]
  show (match idx 36 (nI c) with | none => _ | some c => _) = _
  rw [idx_s hc (by decide)]
  show (match idx 10 (nI v) with | none => _ | some c => _) = _
  rw [idx_s hv (by decide)]
  show (match idx 10 (nI h) with | none => _ | some c => _) = _
  rw [idx_s hh (by decide)]
end SPB
/-- rows grown so far -/
def addI (I : xI) (b nb : Nat) (new : Nat → Nat) (k : Nat) (J : xI) : Prop := (∀ a, (a ≤ b ∨ b + 13 ≤ a) → J a = I a) ∧ (∀ t, t < k → J (b + 1 + 2 * t) 1 = nI (nb + 1) ∧ J (b + 2 + 2 * t) nb = nI (new t) ∧ ∀ i, i < nb → J (b + 2 + 2 * t) i = I (b + 2 + 2 * t) i) ∧ ∀ t, k ≤ t → t < 6 → J (b + 1 + 2 * t) = I (b + 1 + 2 * t) ∧ J (b + 2 + 2 * t) = I (b + 2 + 2 * t)
theorem addI_0 {I : xI} {b nb : Nat} {new : Nat → Nat} : addI I b nb new 0 I := ⟨fun _ _ => rfl, fun t ht => absurd ht (by omega), fun _ _ _ => ⟨rfl, rfl⟩⟩
theorem addI_s {I J : xI} {b nb k r q x : Nat} {new : Nat → Nat} (h : addI I b nb new k J) (hk : k < 6) (hr : r = b + 1 + 2 * k) (hq : q = b + 2 + 2 * k) (hx : x = new k) : addI I b nb new (k + 1) (up2 (up2 J q nb (nI x)) r 1 (nI (nb + 1))) := by
  subst hr hq hx
  obtain ⟨h1, h2, h3⟩ := h
  have g : ∀ a, a ≠ b + 1 + 2 * k → a ≠ b + 2 + 2 * k → up2 (up2 J (b + 2 + 2 * k) nb (nI (new k))) (b + 1 + 2 * k) 1 (nI (nb + 1)) a = J a := fun a p1 p2 => (up2_row p1).trans (up2_row p2)
  refine ⟨fun a ha => (g a (by omega) (by omega)).trans (h1 a ha), fun t ht => ?_, fun t p1 p2 => ?_⟩
  · rcases Nat.lt_succ_iff_lt_or_eq.mp ht with e | e
    · rw [g _ (by omega) (by omega), g _ (by omega) (by omega)]
      exact h2 t e
    · subst e
      refine ⟨up2_s, ?_, fun i hi => ?_⟩
      · rw [up2_row (show b + 2 + 2 * t ≠ b + 1 + 2 * t by omega), up2_s]
      · rw [up2_row (show b + 2 + 2 * t ≠ b + 1 + 2 * t by omega), up2_k (by omega)]
        rw [(h3 t (Nat.le_refl _) hk).2]
  · rw [g _ (by omega) (by omega), g _ (by omega) (by omega)]
    exact h3 t (by omega) p2
theorem FSC.oB {I J : xI} {b k v c hh : Nat} {V : xV} (h : FSC I b V) (a : addI I b (V 8 0) (nwB k v c hh) 6 J) : FSC J b (beV V k v c hh) := by
  obtain ⟨h1, h2, h3, h4, h5⟩ := h
  obtain ⟨a1, a2, a3⟩ := a
  have eb : J b = I b := a1 b (by omega)
  refine ⟨fun j hj => ?_, by rw [eb, beV_8o (by decide)]; exact h2, by rw [eb, beV_8o (by decide)]; exact h3, by rw [eb, beV_8o (by decide)]; exact h4, by rw [eb]; exact h5⟩
  rcases Nat.lt_or_ge j 6 with q | q
  · have e1 : vsz (beV V k v c hh) j = V 8 0 + 1 := by
      unfold vsz
      rw [if_pos q, beV_8]
    have e2 : vsz V j = V 8 0 := if_pos q
    rw [e1]
    obtain ⟨b1, b2, b3⟩ := a2 j q
    refine ⟨b1, fun i hi => ?_⟩
    rcases Nat.lt_succ_iff_lt_or_eq.mp hi with e | e
    · rw [b3 i e, beV_o q e]
      exact (h1 j hj).2 i (by rw [e2]; exact e)
    · rw [e, beV_n q]
      exact b2
  · have e1 : vsz (beV V k v c hh) j = vsz V j := by
      unfold vsz
      rw [beV_8o (i := 4) (by decide), beV_8o (i := 5) (by decide), if_neg (show ¬ j < 6 by omega), if_neg (show ¬ j < 6 by omega)]
    rw [e1, a1 _ (by omega), a1 _ (by omega), beV_67 (by omega)]
    exact h1 j hj
/-- the reference's -/
def addM (I : xI) (M nb : Nat) (new : Nat → Nat) (k : Nat) (J : xI) : Prop := (∀ a, (a ≤ M ∨ M + 7 ≤ a) → J a = I a) ∧ (∀ t, t < k → J (M + 1 + t) nb = nI (new t) ∧ ∀ i, i < nb → J (M + 1 + t) i = I (M + 1 + t) i) ∧ ∀ t, k ≤ t → t < 6 → J (M + 1 + t) = I (M + 1 + t)
theorem addM_0 {I : xI} {M nb : Nat} {new : Nat → Nat} : addM I M nb new 0 I := ⟨fun _ _ => rfl, fun t ht => absurd ht (by omega), fun _ _ _ => rfl⟩
theorem addM_s {I J : xI} {M nb k q x : Nat} {new : Nat → Nat} (h : addM I M nb new k J) (hk : k < 6) (hq : q = M + 1 + k) (hx : x = new k) : addM I M nb new (k + 1) (up2 J q nb (nI x)) := by
  subst hq hx
  obtain ⟨h1, h2, h3⟩ := h
  have g : ∀ a, a ≠ M + 1 + k → up2 J (M + 1 + k) nb (nI (new k)) a = J a := fun a p => up2_row p
  refine ⟨fun a ha => (g a (by omega)).trans (h1 a ha), fun t ht => ?_, fun t p1 p2 => (g _ (by omega)).trans (h3 t (by omega) p2)⟩
  rcases Nat.lt_succ_iff_lt_or_eq.mp ht with e | e
  · rw [g _ (by omega)]
    exact h2 t e
  · subst e
    refine ⟨up2_s, fun i hi => ?_⟩
    rw [up2_k (by omega), h3 t (Nat.le_refl _) hk]
theorem MDV.oB {I J : xI} {M k v c hh : Nat} {V : xV} (h : MDV I M V) (a : addM I M (V 8 0) (nwB k v c hh) 6 J) : MDV (up2 J M 0 (nI (V 8 0 + 1))) M (beV V k v c hh) := by
  obtain ⟨h1, h2, h3, h4, h5, h6, h7, h8, h9, h10⟩ := h
  obtain ⟨a1, a2, a3⟩ := a
  have g : ∀ a, a ≠ M → up2 J M 0 (nI (V 8 0 + 1)) a = J a := fun a p => up2_row p
  have f : ∀ s, ¬ s = 0 → up2 J M 0 (nI (V 8 0 + 1)) M s = I M s := fun s p => by rw [up2_k p, a1 M (by omega)]
  unfold MDV
  rw [beV_8, beV_8o (i := 1) (by decide), beV_8o (i := 2) (by decide), beV_8o (i := 3) (by decide), beV_8o (i := 4) (by decide), beV_8o (i := 5) (by decide), beV_8o (i := 6) (by decide), beV_67 (Or.inl rfl), beV_67 (Or.inr rfl), f 1 (by decide), f 2 (by decide), f 3 (by decide), f 38 (by decide), f 46 (by decide), f 11 (by decide), g (M + 19) (by omega), g (M + 26) (by omega), a1 (M + 19) (by omega), a1 (M + 26) (by omega)]
  refine ⟨up2_s, h2, h3, h4, h5, h6, h7, fun j hj i hi => ?_, h9, h10⟩
  rw [g _ (by omega)]
  obtain ⟨b2, b3⟩ := a2 j hj
  rcases Nat.lt_succ_iff_lt_or_eq.mp hi with e | e
  · rw [b3 i e, beV_o hj e]
    exact h8 j hj i e
  · rw [e, beV_n hj]
    exact b2
theorem bclr_hi : ∀ nb, nb < 6 → ∀ w, w < 64 → w < 2 ^ nb → nI w &&& (((1 : Int32) <<< (nI nb &&& 31)) ^^^ -1) = nI w := by decide +kernel

set_option maxHeartbeats 4000000 in
set_option maxRecDepth 100000 in
theorem c_sizeN {T : xT} {n : Nat} {sh : Nat → Nat × Nat} {I : xI} {R : xR} {L : xL} {P : xPost} {b m : Nat} (hS : xScene sh R b) (hm : I (b + 5) 1 = nI m) (K : P (n, sh, 0, 0) I R L (some (.int (nI m)))) : XM T zX6_size 0 [.ref b] n sh I R L P := by
  refine x_aload_n (pc := 0) dX6_size_0 rfl rfl ?_
  refine x_getr (pc := 1) dX6_size_1 kf_RX6_23 hS.1 rfl hS.2.2.2.2.2.1 ?_
  refine x_get (pc := 4) dX6_size_4 kf_RX6_68 hS.2.2.2.2.2.2.2.2.2.2.2.2.2.1.1 rfl ?_
  rw [hm]
  refine x_ireturn (pc := 7) dX6_size_7 ⟨_, rfl, rfl⟩ ⟨Nat.le_refl _, Nat.le_refl _⟩ ?_
  exact K

set_option maxHeartbeats 4000000 in
set_option maxRecDepth 100000 in
theorem c_addBeast {T : xT} {n : Nat} {sh : Nat → Nat × Nat} {I : xI} {R : xR} {L : xL} {P : xPost} {b nb k v c hu : Nat} (hS : xScene sh R b) (hsz : ∀ j, j < 6 → I (b + 1 + 2 * j) 1 = nI nb) (hn : nb < 6) (K : ∀ J : xI, addI I b nb (nwB k v c hu) 6 J → P (n, sh, 0, 0) J R L (some (.int (nI nb))))  : XM T zX6_addBeast 1 [.ref b, .int (nI k), .int (nI v), .int (nI c), .int (nI hu)] n sh I R L P := by
  have a0 := @addI_0 I b nb (nwB k v c hu)
  refine x_aload_n (pc := 0) dX6_addBeast_0 rfl rfl ?_
  refine x_getr (pc := 1) dX6_addBeast_1 kf_RX6_14 hS.1 rfl hS.2.2.2.1 ?_
  refine x_iload_n (pc := 4) dX6_addBeast_4 rfl rfl ?_
  refine x_callV (pc := 5) (As := [.int _]) dX6_addBeast_5 km_X5_add kv_X5_add kl_RX6_74 hS.2.2.2.2.2.2.2.2.2.2.2.1.1 rfl rfl (by decide) ⟨Nat.le_refl _, Nat.le_refl _⟩ rfl (Nat.le_of_ble_eq_true rfl) (Nat.le_of_ble_eq_true rfl) (c_add (x := nI k) (m := nb) (hS.2.2.2.2.2.2.2.2.2.2.2.1) (show _ = nI nb from by rw [((a0.2.2 0 (by decide) (by decide)).1 : _ = I (b + 1))]; exact hsz 0 (by decide)) hn (⟨rfl, rfl, ?_⟩))
  have a1 := addI_s (x := k) a0 (by decide) rfl rfl rfl
  refine x_aload_n (pc := 8) dX6_addBeast_8 rfl rfl ?_
  refine x_getr (pc := 9) dX6_addBeast_9 kf_RX6_20 hS.1 rfl hS.2.2.2.2.1 ?_
  refine x_iload_n (pc := 12) dX6_addBeast_12 rfl rfl ?_
  refine x_callV (pc := 13) (As := [.int _]) dX6_addBeast_13 km_X5_add kv_X5_add kl_RX6_74 hS.2.2.2.2.2.2.2.2.2.2.2.2.1.1 rfl rfl (by decide) ⟨Nat.le_refl _, Nat.le_refl _⟩ rfl (Nat.le_of_ble_eq_true rfl) (Nat.le_of_ble_eq_true rfl) (c_add (x := nI v) (m := nb) (hS.2.2.2.2.2.2.2.2.2.2.2.2.1) (show _ = nI nb from by rw [((a1.2.2 1 (by decide) (by decide)).1 : _ = I (b + 3))]; exact hsz 1 (by decide)) hn (⟨rfl, rfl, ?_⟩))
  have a2 := addI_s (x := v) a1 (by decide) rfl rfl rfl
  refine x_aload_n (pc := 16) dX6_addBeast_16 rfl rfl ?_
  refine x_getr (pc := 17) dX6_addBeast_17 kf_RX6_23 hS.1 rfl hS.2.2.2.2.2.1 ?_
  refine x_iload_n (pc := 20) dX6_addBeast_20 rfl rfl ?_
  refine x_callV (pc := 21) (As := [.int _]) dX6_addBeast_21 km_X5_add kv_X5_add kl_RX6_74 hS.2.2.2.2.2.2.2.2.2.2.2.2.2.1.1 rfl rfl (by decide) ⟨Nat.le_refl _, Nat.le_refl _⟩ rfl (Nat.le_of_ble_eq_true rfl) (Nat.le_of_ble_eq_true rfl) (c_add (x := nI c) (m := nb) (hS.2.2.2.2.2.2.2.2.2.2.2.2.2.1) (show _ = nI nb from by rw [((a2.2.2 2 (by decide) (by decide)).1 : _ = I (b + 5))]; exact hsz 2 (by decide)) hn (⟨rfl, rfl, ?_⟩))
  have a3 := addI_s (x := c) a2 (by decide) rfl rfl rfl
  refine x_aload_n (pc := 24) dX6_addBeast_24 rfl rfl ?_
  refine x_getr (pc := 25) dX6_addBeast_25 kf_RX6_26 hS.1 rfl hS.2.2.2.2.2.2.1 ?_
  refine x_iload_n (pc := 28) dX6_addBeast_28 rfl rfl ?_
  refine x_callV (pc := 29) (As := [.int _]) dX6_addBeast_29 km_X5_add kv_X5_add kl_RX6_74 hS.2.2.2.2.2.2.2.2.2.2.2.2.2.2.1.1 rfl rfl (by decide) ⟨Nat.le_refl _, Nat.le_refl _⟩ rfl (Nat.le_of_ble_eq_true rfl) (Nat.le_of_ble_eq_true rfl) (c_add (x := nI c) (m := nb) (hS.2.2.2.2.2.2.2.2.2.2.2.2.2.2.1) (show _ = nI nb from by rw [((a3.2.2 3 (by decide) (by decide)).1 : _ = I (b + 7))]; exact hsz 3 (by decide)) hn (⟨rfl, rfl, ?_⟩))
  have a4 := addI_s (x := c) a3 (by decide) rfl rfl rfl
  refine x_aload_n (pc := 32) dX6_addBeast_32 rfl rfl ?_
  refine x_getr (pc := 33) dX6_addBeast_33 kf_RX6_29 hS.1 rfl hS.2.2.2.2.2.2.2.1 ?_
  refine x_iload (pc := 36) dX6_addBeast_36 rfl ?_
  refine x_callV (pc := 38) (As := [.int _]) dX6_addBeast_38 km_X5_add kv_X5_add kl_RX6_74 hS.2.2.2.2.2.2.2.2.2.2.2.2.2.2.2.1.1 rfl rfl (by decide) ⟨Nat.le_refl _, Nat.le_refl _⟩ rfl (Nat.le_of_ble_eq_true rfl) (Nat.le_of_ble_eq_true rfl) (c_add (x := nI hu) (m := nb) (hS.2.2.2.2.2.2.2.2.2.2.2.2.2.2.2.1) (show _ = nI nb from by rw [((a4.2.2 4 (by decide) (by decide)).1 : _ = I (b + 9))]; exact hsz 4 (by decide)) hn (⟨rfl, rfl, ?_⟩))
  have a5 := addI_s (x := hu) a4 (by decide) rfl rfl rfl
  refine x_aload_n (pc := 41) dX6_addBeast_41 rfl rfl ?_
  refine x_getr (pc := 42) dX6_addBeast_42 kf_RX6_32 hS.1 rfl hS.2.2.2.2.2.2.2.2.1 ?_
  refine x_iconst (pc := 45) (v := 0) dX6_addBeast_45 (by decide) ?_
  refine x_callV (pc := 46) (As := [.int _]) dX6_addBeast_46 km_X5_add kv_X5_add kl_RX6_74 hS.2.2.2.2.2.2.2.2.2.2.2.2.2.2.2.2.1.1 rfl rfl (by decide) ⟨Nat.le_refl _, Nat.le_refl _⟩ rfl (Nat.le_of_ble_eq_true rfl) (Nat.le_of_ble_eq_true rfl) (c_add (x := 0) (m := nb) (hS.2.2.2.2.2.2.2.2.2.2.2.2.2.2.2.2.1) (show _ = nI nb from by rw [((a5.2.2 5 (by decide) (by decide)).1 : _ = I (b + 11))]; exact hsz 5 (by decide)) hn (⟨rfl, rfl, ?_⟩))
  have a6 := addI_s (x := 0) a5 (by decide) rfl rfl rfl
  refine x_aload_n (pc := 49) dX6_addBeast_49 rfl rfl ?_
  refine x_callV (pc := 50) (As := []) dX6_addBeast_50 km_X6_size kv_X6_size kl_RX6_71 hS.1 rfl rfl (by decide) ⟨Nat.le_refl _, Nat.le_refl _⟩ rfl (Nat.le_of_ble_eq_true rfl) (Nat.le_of_ble_eq_true rfl) (c_sizeN hS (show _ = nI (nb + 1) from (a6.2.1 2 (by decide)).1) (⟨rfl, rfl, ?_⟩))
  refine x_iconst (pc := 53) (v := 1) dX6_addBeast_53 (by decide) ?_
  refine x_isubn (pc := 54) (a := (nb + 1)) (b := 1) dX6_addBeast_54 (by omega) ?_
  refine x_ireturn (pc := 55) dX6_addBeast_55 ⟨_, rfl, rfl⟩ ⟨Nat.le_refl _, Nat.le_refl _⟩ ?_
  rw [show nb + 1 - 1 = nb by omega]
  exact K _ a6

set_option maxHeartbeats 4000000 in
set_option maxRecDepth 100000 in
theorem c_beast {T : xT} {n : Nat} {sh : Nat → Nat × Nat} {I : xI} {R : xR} {L : xL} {P : xPost} {lr nw im tr rd hu se ac M : Nat} (hG : GEO sh R lr nw im tr rd hu se ac M) {V : xV} {B : Nat} (h : FSC I nw V) (hv : VOK V B) {x y z w : Int32} (K : ∀ I2 : xI, FSC I2 nw (spBeast V x y z w).2 → (∀ a, (a < nw ∨ nw + 17 ≤ a) → I2 a = I a) → P (n, sh, 0, 0) I2 R L (some (.int (spBeast V x y z w).1)))  : XM T zX9_beast 2 [.ref lr, .int x, .int y, .int z, .int w] n sh I R L P := by
  obtain ⟨v6, v12, v10, vb, vf, vw, vm, vta, vte, vod, vrg, vdi⟩ := id hv
  have r0 : bRow I (nw + 1) (V 8 0) (V 0) := h.row 0 (by decide)
  have r1 : bRow I (nw + 3) (V 8 0) (V 1) := h.row 1 (by decide)
  have r2 : bRow I (nw + 5) (V 8 0) (V 2) := h.row 2 (by decide)
  have r3 : bRow I (nw + 7) (V 8 0) (V 3) := h.row 3 (by decide)
  have r4 : bRow I (nw + 9) (V 8 0) (V 4) := h.row 4 (by decide)
  have r5 : bRow I (nw + 11) (V 8 0) (V 5) := h.row 5 (by decide)
  have r6 : bRow I (nw + 13) (V 8 4) (V 6) := h.row 6 (by decide)
  have r7 : bRow I (nw + 15) (V 8 5) (V 7) := h.row 7 (by decide)
  refine x_iload_n (pc := 0) dX9_beast_0 rfl rfl ?_
  refine x_callS (pc := 1) (As := [.int _]) dX9_beast_1 km_X9_isKind ks_X9_isKind kl_RX9_74 rfl (by decide) ⟨Nat.le_refl _, Nat.le_refl _⟩ rfl (Nat.le_of_ble_eq_true rfl) (Nat.le_of_ble_eq_true rfl) (c_isKind (fun k hk ek => ⟨rfl, rfl, ?_⟩) (fun h1 => ⟨rfl, rfl, ?_⟩))
  · skip
    subst ek
    refine x_if_eq_f (pc := 4) (tgt := 14) dX9_beast_4 (by decide) (by decide) ?_
    refine x_iload_n (pc := 7) dX9_beast_7 rfl rfl ?_
    refine x_callS (pc := 8) (As := [.int _]) dX9_beast_8 km_X9_isCell ks_X9_isCell kl_RX9_78 rfl (by decide) ⟨Nat.le_refl _, Nat.le_refl _⟩ rfl (Nat.le_of_ble_eq_true rfl) (Nat.le_of_ble_eq_true rfl) (c_isCell (fun c hc ec => ⟨rfl, rfl, ?_⟩) (fun h2 => ⟨rfl, rfl, ?_⟩))
    · skip
      subst ec
      refine x_if_ne_t (pc := 11) (tgt := 16) dX9_beast_11 (by decide) (by decide) ?_
      refine x_iload_n (pc := 16) dX9_beast_16 rfl rfl ?_
      refine x_iconst (pc := 17) (v := 0) dX9_beast_17 (by decide) ?_
      refine x_bipush (pc := 18) (v := 9) dX9_beast_18 (by decide) ?_
      refine x_callS (pc := 20) (As := [.int _, .int _, .int _]) dX9_beast_20 km_X9_isWithin ks_X9_isWithin kl_RX9_81 rfl (by decide) ⟨Nat.le_refl _, Nat.le_refl _⟩ rfl (Nat.le_of_ble_eq_true rfl) (Nat.le_of_ble_eq_true rfl) (c_isWithin (fun p1 p2 => ⟨rfl, rfl, ?_⟩) (fun g1 => ⟨rfl, rfl, ?_⟩))
      · skip
        obtain ⟨v, hv9, ev⟩ := dig_k p1 p2
        subst ev
        refine x_if_eq_f (pc := 23) (tgt := 37) dX9_beast_23 (by decide) (by decide) ?_
        refine x_iload (pc := 26) dX9_beast_26 rfl ?_
        refine x_iconst (pc := 28) (v := 0) dX9_beast_28 (by decide) ?_
        refine x_bipush (pc := 29) (v := 9) dX9_beast_29 (by decide) ?_
        refine x_callS (pc := 31) (As := [.int _, .int _, .int _]) dX9_beast_31 km_X9_isWithin ks_X9_isWithin kl_RX9_81 rfl (by decide) ⟨Nat.le_refl _, Nat.le_refl _⟩ rfl (Nat.le_of_ble_eq_true rfl) (Nat.le_of_ble_eq_true rfl) (c_isWithin (fun p1 p2 => ⟨rfl, rfl, ?_⟩) (fun g2 => ⟨rfl, rfl, ?_⟩))
        · skip
          obtain ⟨hu, hhu, ehu⟩ := dig_k p1 p2
          subst ehu
          refine x_if_ne_t (pc := 34) (tgt := 40) dX9_beast_34 (by decide) (by decide) ?_
          refine x_aload_n (pc := 40) dX9_beast_40 rfl rfl ?_
          refine x_getr (pc := 41) dX9_beast_41 kf_RX9_12 hG.g_x rfl hG.g_f0 ?_
          refine x_iload_n (pc := 44) dX9_beast_44 rfl rfl ?_
          refine x_callV (pc := 45) (As := [.int _]) dX9_beast_45 km_X6_holdsBeast kv_X6_holdsBeast kl_RX9_85 hG.g_nw.1 rfl rfl (by decide) ⟨Nat.le_refl _, Nat.le_refl _⟩ rfl (Nat.le_of_ble_eq_true rfl) (Nat.le_of_ble_eq_true rfl) (c_holdsBeast (x := c) hG.g_nw r2 v6 (fun i hi => (vb i hi).2.2.1) hc (fun hh => ⟨rfl, rfl, ?_⟩) (fun hf => ⟨rfl, rfl, ?_⟩))
          · skip
            refine x_if_ne_t (pc := 48) (tgt := 73) dX9_beast_48 (by decide) (by decide) ?_
            refine x_bipush (pc := 73) (v := -3) dX9_beast_73 (by decide) ?_
            refine x_ireturn (pc := 75) dX9_beast_75 ⟨_, rfl, rfl⟩ ⟨Nat.le_refl _, Nat.le_refl _⟩ ?_
            have e9 : spBeast V (nI k) (nI v) (nI c) (nI hu) = (-3, V) := (spB_s hk hc hv9 hhu).trans (if_pos (by first | exact Or.inl hh | exact Or.inr (Or.inr hs) | exact Or.inr (Or.inl c59)))
            have h9 := K I (by rw [e9]; exact h) (fun _ _ => rfl)
            rw [e9] at h9
            exact h9
          · skip
            refine x_if_ne_f (pc := 48) (tgt := 73) dX9_beast_48 (by decide) (by decide) ?_
            refine x_aload_n (pc := 51) dX9_beast_51 rfl rfl ?_
            refine x_getr (pc := 52) dX9_beast_52 kf_RX9_12 hG.g_x rfl hG.g_f0 ?_
            refine x_get (pc := 55) dX9_beast_55 kf_RX9_88 hG.g_nw.1 rfl ?_
            rw [h.2.1]
            refine x_iload_n (pc := 58) dX9_beast_58 rfl rfl ?_
            refine x_icmpn_eq (pc := 59) (tgt := 73) (a := (V 8 1)) (b := c) dX9_beast_59 (by decide) (by omega) (by omega) (fun c59 => ?_) (fun c59 => ?_)
            · skip
              refine x_bipush (pc := 73) (v := -3) dX9_beast_73 (by decide) ?_
              refine x_ireturn (pc := 75) dX9_beast_75 ⟨_, rfl, rfl⟩ ⟨Nat.le_refl _, Nat.le_refl _⟩ ?_
              have e9 : spBeast V (nI k) (nI v) (nI c) (nI hu) = (-3, V) := (spB_s hk hc hv9 hhu).trans (if_pos (by first | exact Or.inl hh | exact Or.inr (Or.inr hs) | exact Or.inr (Or.inl c59)))
              have h9 := K I (by rw [e9]; exact h) (fun _ _ => rfl)
              rw [e9] at h9
              exact h9
            · skip
              refine x_aload_n (pc := 62) dX9_beast_62 rfl rfl ?_
              refine x_getr (pc := 63) dX9_beast_63 kf_RX9_12 hG.g_x rfl hG.g_f0 ?_
              refine x_iload_n (pc := 66) dX9_beast_66 rfl rfl ?_
              refine x_callV (pc := 67) (As := [.int _]) dX9_beast_67 km_X6_isStool kv_X6_isStool kl_RX9_91 hG.g_nw.1 rfl rfl (by decide) ⟨Nat.le_refl _, Nat.le_refl _⟩ rfl (Nat.le_of_ble_eq_true rfl) (Nat.le_of_ble_eq_true rfl) (c_isStool (x := c) hG.g_nw r3 v6 (fun i hi => (vb i hi).2.2.2.1) hc (fun hs => ⟨rfl, rfl, ?_⟩) (fun hg => ⟨rfl, rfl, ?_⟩))
              · skip
                refine x_if_eq_f (pc := 70) (tgt := 76) dX9_beast_70 (by decide) (by decide) ?_
                refine x_bipush (pc := 73) (v := -3) dX9_beast_73 (by decide) ?_
                refine x_ireturn (pc := 75) dX9_beast_75 ⟨_, rfl, rfl⟩ ⟨Nat.le_refl _, Nat.le_refl _⟩ ?_
                have e9 : spBeast V (nI k) (nI v) (nI c) (nI hu) = (-3, V) := (spB_s hk hc hv9 hhu).trans (if_pos (by first | exact Or.inl hh | exact Or.inr (Or.inr hs) | exact Or.inr (Or.inl c59)))
                have h9 := K I (by rw [e9]; exact h) (fun _ _ => rfl)
                rw [e9] at h9
                exact h9
              · skip
                refine x_if_eq_t (pc := 70) (tgt := 76) dX9_beast_70 (by decide) (by decide) ?_
                refine x_aload_n (pc := 76) dX9_beast_76 rfl rfl ?_
                refine x_getr (pc := 77) dX9_beast_77 kf_RX9_12 hG.g_x rfl hG.g_f0 ?_
                refine x_callV (pc := 80) (As := []) dX9_beast_80 km_X6_size kv_X6_size kl_RX9_94 hG.g_nw.1 rfl rfl (by decide) ⟨Nat.le_refl _, Nat.le_refl _⟩ rfl (Nat.le_of_ble_eq_true rfl) (Nat.le_of_ble_eq_true rfl) (c_size hG.g_nw r2 v6 (⟨rfl, rfl, ?_⟩))
                refine x_bipush (pc := 83) (v := 6) dX9_beast_83 (by decide) ?_
                refine x_icmpn_lt (pc := 85) (tgt := 91) (a := (V 8 0)) (b := 6) dX9_beast_85 (by decide) (by omega) (by decide) (fun c85 => ?_) (fun c85 => ?_)
                · skip
                  refine x_aload_n (pc := 91) dX9_beast_91 rfl rfl ?_
                  refine x_getr (pc := 92) dX9_beast_92 kf_RX9_12 hG.g_x rfl hG.g_f0 ?_
                  refine x_iload_n (pc := 95) dX9_beast_95 rfl rfl ?_
                  refine x_iload_n (pc := 96) dX9_beast_96 rfl rfl ?_
                  refine x_iload_n (pc := 97) dX9_beast_97 rfl rfl ?_
                  refine x_iload (pc := 98) dX9_beast_98 rfl ?_
                  refine x_callV (pc := 100) (As := [.int _, .int _, .int _, .int _]) dX9_beast_100 km_X6_addBeast kv_X6_addBeast kl_RX9_98 hG.g_nw.1 rfl rfl (by decide) ⟨Nat.le_refl _, Nat.le_refl _⟩ rfl (Nat.le_of_ble_eq_true rfl) (Nat.le_of_ble_eq_true rfl) (c_addBeast (k := k) (v := v) (c := c) (hu := hu) hG.g_nw (fun j hj => by have := (h.1 j (by omega)).1; rw [show vsz V j = V 8 0 from if_pos hj] at this; exact this) c85 (fun J aj => ⟨rfl, rfl, ?_⟩))
                  refine x_ireturn (pc := 103) dX9_beast_103 ⟨_, rfl, rfl⟩ ⟨Nat.le_refl _, Nat.le_refl _⟩ ?_
                  have e9 : spBeast V (nI k) (nI v) (nI c) (nI hu) = (nI (V 8 0), beV V k v c hu) := (spB_s hk hc hv9 hhu).trans ((if_neg (fun q => q.elim (fun q => by rw [hf] at q; cases q) (fun q => q.elim c59 (fun q => by rw [hg] at q; cases q)))).trans (if_pos c85))
                  have h9 := K J (by rw [e9]; exact h.oB aj) (fun a ha => aj.1 a (by omega))
                  rw [e9] at h9
                  exact h9
                · skip
                  refine x_bipush (pc := 88) (v := -4) dX9_beast_88 (by decide) ?_
                  refine x_ireturn (pc := 90) dX9_beast_90 ⟨_, rfl, rfl⟩ ⟨Nat.le_refl _, Nat.le_refl _⟩ ?_
                  have e9 : spBeast V (nI k) (nI v) (nI c) (nI hu) = (-4, V) := (spB_s hk hc hv9 hhu).trans ((if_neg (fun q => q.elim (fun q => by rw [hf] at q; cases q) (fun q => q.elim c59 (fun q => by rw [hg] at q; cases q)))).trans (if_neg (by omega)))
                  have h9 := K I (by rw [e9]; exact h) (fun _ _ => rfl)
                  rw [e9] at h9
                  exact h9
        · skip
          refine x_if_ne_f (pc := 34) (tgt := 40) dX9_beast_34 (by decide) (by decide) ?_
          refine x_bipush (pc := 37) (v := -2) dX9_beast_37 (by decide) ?_
          refine x_ireturn (pc := 39) dX9_beast_39 ⟨_, rfl, rfl⟩ ⟨Nat.le_refl _, Nat.le_refl _⟩ ?_
          have e9 : spBeast V (nI k) (nI v) (nI c) (w) = (-2, V) := by first | exact spB_3 hk hc (dig_n g1) | exact spB_4 hk hc (dig_n g2)
          have h9 := K I (by rw [e9]; exact h) (fun _ _ => rfl)
          rw [e9] at h9
          exact h9
      · skip
        refine x_if_eq_t (pc := 23) (tgt := 37) dX9_beast_23 (by decide) (by decide) ?_
        refine x_bipush (pc := 37) (v := -2) dX9_beast_37 (by decide) ?_
        refine x_ireturn (pc := 39) dX9_beast_39 ⟨_, rfl, rfl⟩ ⟨Nat.le_refl _, Nat.le_refl _⟩ ?_
        have e9 : spBeast V (nI k) (y) (nI c) (w) = (-2, V) := by first | exact spB_3 hk hc (dig_n g1) | exact spB_4 hk hc (dig_n g2)
        have h9 := K I (by rw [e9]; exact h) (fun _ _ => rfl)
        rw [e9] at h9
        exact h9
    · skip
      refine x_if_ne_f (pc := 11) (tgt := 16) dX9_beast_11 (by decide) (by decide) ?_
      refine x_iconst (pc := 14) (v := -1) dX9_beast_14 (by decide) ?_
      refine x_ireturn (pc := 15) dX9_beast_15 ⟨_, rfl, rfl⟩ ⟨Nat.le_refl _, Nat.le_refl _⟩ ?_
      have e9 : spBeast V (nI k) (y) (z) (w) = (-1, V) := by first | exact spB_1 (kind_n h1) | exact spB_2 (cell_n h2)
      have h9 := K I (by rw [e9]; exact h) (fun _ _ => rfl)
      rw [e9] at h9
      exact h9
  · skip
    refine x_if_eq_t (pc := 4) (tgt := 14) dX9_beast_4 (by decide) (by decide) ?_
    refine x_iconst (pc := 14) (v := -1) dX9_beast_14 (by decide) ?_
    refine x_ireturn (pc := 15) dX9_beast_15 ⟨_, rfl, rfl⟩ ⟨Nat.le_refl _, Nat.le_refl _⟩ ?_
    have e9 : spBeast V (x) (y) (z) (w) = (-1, V) := by first | exact spB_1 (kind_n h1) | exact spB_2 (cell_n h2)
    have h9 := K I (by rw [e9]; exact h) (fun _ _ => rfl)
    rw [e9] at h9
    exact h9

set_option maxHeartbeats 4000000 in
set_option maxRecDepth 100000 in
theorem lm_isStool {T : xT} {n : Nat} {sh : Nat → Nat × Nat} {I : xI} {R : xR} {L : xL} {P : xPost} {M nb : Nat} {ce : Nat → Nat} (hM : xModel sh R M) (hnb : I M 0 = nI nb) (hn6 : nb ≤ 6) (hc : ∀ i, i < nb → I (M + 4) i = nI (ce i)) (hce : ∀ i, i < nb → ce i < 36) {x : Nat} (hx : x < 36) (K1 : held nb ce x = true → P (n, sh, 0, 0) I R L (some (.int 1))) (K2 : held nb ce x = false → P (n, sh, 0, 0) I R L (some (.int 0))) : ∀ (w i : Nat), i + w = nb → (∀ j, j < i → ¬ ce j = x) → X T zX10_isStool 0 0 0 P 2 [(0, .ref M), (1, .int (nI x)), (2, .int (nI i))] [] (n, sh, 0, 0) (I) R L := by
  intro w
  induction w with
  | zero =>
    intro i hw hno
    have hz : i = nb := by omega
    refine x_iload_n (pc := 2) dX10_isStool_2 rfl rfl ?_
    refine x_aload_n (pc := 3) dX10_isStool_3 rfl rfl ?_
    refine x_get (pc := 4) dX10_isStool_4 kf_RX10_7 hM.s rfl ?_
    rw [hnb]
    refine x_icmpn_ge_t (pc := 7) (tgt := 28) (a := i) (b := nb) dX10_isStool_7 (by decide) (by omega) (by omega) (by omega) ?_
    refine x_iconst (pc := 28) (v := 0) dX10_isStool_28 (by decide) ?_
    refine x_ireturn (pc := 29) dX10_isStool_29 ⟨_, rfl, by decide⟩ ⟨Nat.le_refl _, Nat.le_refl _⟩ ?_
    exact K2 (held_f (fun j hj => hno j (by omega)))
  | succ w ih =>
    intro i hw hno
    have hi : i < nb := by omega
    refine x_iload_n (pc := 2) dX10_isStool_2 rfl rfl ?_
    refine x_aload_n (pc := 3) dX10_isStool_3 rfl rfl ?_
    refine x_get (pc := 4) dX10_isStool_4 kf_RX10_7 hM.s rfl ?_
    rw [hnb]
    refine x_icmpn_ge_f (pc := 7) (tgt := 28) (a := i) (b := nb) dX10_isStool_7 (by decide) (by omega) (by omega) (by omega) ?_
    refine x_aload_n (pc := 10) dX10_isStool_10 rfl rfl ?_
    refine x_getr (pc := 11) dX10_isStool_11 kf_RX10_32 hM.s rfl hM.f3 ?_
    refine x_iload_n (pc := 14) dX10_isStool_14 rfl rfl ?_
    refine x_ialdn (pc := 15) (a := i) dX10_isStool_15 hM.s3 (by omega) (by omega) ?_
    rw [hc i hi]
    have hci := hce i hi
    refine x_iload_n (pc := 16) dX10_isStool_16 rfl rfl ?_
    refine x_icmpn_ne (pc := 17) (tgt := 22) (a := (ce i)) (b := x) dX10_isStool_17 (by decide) (by omega) (by omega) (fun c17 => ?_) (fun c17 => ?_)
    · skip
      refine x_iinc (pc := 22) (v := nI (i + 1)) (lv' := [(0, .ref M), (1, .int (nI x)), (2, .int (nI (i + 1)))]) dX10_isStool_22 rfl (nI_1 _) (by decide) rfl ?_
      refine x_goto (pc := 25) (tgt := 2) dX10_isStool_25 (by decide) ?_
      exact ih (i + 1) (by omega) (fun j hj9 => (Nat.lt_succ_iff_lt_or_eq.mp hj9).elim (hno j) (fun e9 => by subst e9; exact c17))
    · skip
      refine x_iconst (pc := 20) (v := 1) dX10_isStool_20 (by decide) ?_
      refine x_ireturn (pc := 21) dX10_isStool_21 ⟨_, rfl, by decide⟩ ⟨Nat.le_refl _, Nat.le_refl _⟩ ?_
      exact K1 (held_t.mpr ⟨i, hi, c17⟩)

set_option maxHeartbeats 4000000 in
set_option maxRecDepth 100000 in
theorem m_isStool {T : xT} {n : Nat} {sh : Nat → Nat × Nat} {I : xI} {R : xR} {L : xL} {P : xPost} {M nb : Nat} {ce : Nat → Nat} (hM : xModel sh R M) (hnb : I M 0 = nI nb) (hn6 : nb ≤ 6) (hc : ∀ i, i < nb → I (M + 4) i = nI (ce i)) (hce : ∀ i, i < nb → ce i < 36) {x : Nat} (hx : x < 36) (K1 : held nb ce x = true → P (n, sh, 0, 0) I R L (some (.int 1))) (K2 : held nb ce x = false → P (n, sh, 0, 0) I R L (some (.int 0))) : XM T zX10_isStool 0 [.ref M, .int (nI x)] n sh I R L P := by
  refine x_iconst (pc := 0) (v := 0) dX10_isStool_0 (by decide) ?_
  refine x_istore_n (pc := 1) (lv' := [(0, .ref M), (1, .int (nI x)), (2, .int 0)]) dX10_isStool_1 rfl (by decide) rfl ?_
  exact lm_isStool hM hnb hn6 hc hce hx K1 K2 nb 0 (by omega) (fun j hj => absurd hj (by omega))

set_option maxHeartbeats 4000000 in
set_option maxRecDepth 100000 in
theorem lm_beast {T : xT} {n : Nat} {sh : Nat → Nat × Nat} {I : xI} {R : xR} {L : xL} {P : xPost} {M : Nat} (hM : xModel sh R M) {nb : Nat} (hn : nb < 6) (hnb : I M 0 = nI nb) {f : Nat → Nat} (hf : ∀ i, i < nb → I (M + 6) i = nI (f i)) (hfl : ∀ i, i < nb → f i < 2 ^ nb) {x y z u : Int32} (K : P (n, sh, 0, 0) (up2 I M 0 (nI (nb + 1))) R L (some (.int (nI nb))))  : ∀ (w i : Nat), i + w = nb → X T zX10_beast 2 0 0 P 150 [(0, .ref M), (1, .int x), (2, .int y), (3, .int z), (4, .int u), (5, .int (nI i))] [] (n, sh, 0, 0) (I) R L := by
  intro w
  induction w with
  | zero =>
    intro i hw
    have hz : i = nb := by omega
    refine x_iload (pc := 150) dX10_beast_150 rfl ?_
    refine x_aload_n (pc := 152) dX10_beast_152 rfl rfl ?_
    refine x_get (pc := 153) dX10_beast_153 kf_RX10_7 hM.s rfl ?_
    rw [hnb]
    refine x_icmpn_ge_t (pc := 156) (tgt := 183) (a := i) (b := nb) dX10_beast_156 (by decide) (by omega) (by omega) (by omega) ?_
    refine x_aload_n (pc := 183) dX10_beast_183 rfl rfl ?_
    refine x_dup (pc := 184) dX10_beast_184 rfl ?_
    refine x_get (pc := 185) dX10_beast_185 kf_RX10_7 hM.s rfl ?_
    rw [hnb]
    refine x_iconst (pc := 188) (v := 1) dX10_beast_188 (by decide) ?_
    refine x_iaddn (pc := 189) (a := nb) (b := 1) dX10_beast_189 ?_
    refine x_put (pc := 190) dX10_beast_190 kf_RX10_7 hM.s rfl (Or.inl kb_10_0) ?_
    refine x_aload_n (pc := 193) dX10_beast_193 rfl rfl ?_
    refine x_get (pc := 194) dX10_beast_194 kf_RX10_7 hM.s rfl ?_
    rw [up2_s]
    refine x_iconst (pc := 197) (v := 1) dX10_beast_197 (by decide) ?_
    refine x_isubn (pc := 198) (a := (nb + 1)) (b := 1) dX10_beast_198 (by omega) ?_
    refine x_ireturn (pc := 199) dX10_beast_199 ⟨_, rfl, rfl⟩ ⟨Nat.le_refl _, Nat.le_refl _⟩ ?_
    rw [show nb + 1 - 1 = nb by omega]
    exact K
  | succ w ih =>
    intro i hw
    have hi : i < nb := by omega
    refine x_iload (pc := 150) dX10_beast_150 rfl ?_
    refine x_aload_n (pc := 152) dX10_beast_152 rfl rfl ?_
    refine x_get (pc := 153) dX10_beast_153 kf_RX10_7 hM.s rfl ?_
    rw [hnb]
    refine x_icmpn_ge_f (pc := 156) (tgt := 183) (a := i) (b := nb) dX10_beast_156 (by decide) (by omega) (by omega) (by omega) ?_
    refine x_aload_n (pc := 159) dX10_beast_159 rfl rfl ?_
    refine x_getr (pc := 160) dX10_beast_160 kf_RX10_38 hM.s rfl hM.f5 ?_
    refine x_iload (pc := 163) dX10_beast_163 rfl ?_
    refine x_dup2 (pc := 165) dX10_beast_165 rfl rfl ?_
    refine x_ialdn (pc := 166) (a := i) dX10_beast_166 hM.s5 (by omega) (by omega) ?_
    rw [hf i hi]
    refine x_iconst (pc := 167) (v := 1) dX10_beast_167 (by decide) ?_
    refine x_aload_n (pc := 168) dX10_beast_168 rfl rfl ?_
    refine x_get (pc := 169) dX10_beast_169 kf_RX10_7 hM.s rfl ?_
    rw [hnb]
    refine x_ishl (pc := 172) dX10_beast_172 ?_
    refine x_iconst (pc := 173) (v := -1) dX10_beast_173 (by decide) ?_
    refine x_ixor (pc := 174) dX10_beast_174 ?_
    refine x_iand (pc := 175) dX10_beast_175 ?_
    rw [bclr_hi nb hn _ (pw6 (hfl i hi) (by omega)) (hfl i hi)]
    refine x_iastn (pc := 176) (a := i) dX10_beast_176 hM.s5 (by omega) (by omega) ?_
    refine x_iinc (pc := 177) (v := nI (i + 1)) (lv' := [(0, .ref M), (1, .int x), (2, .int y), (3, .int z), (4, .int u), (5, .int (nI (i + 1)))]) dX10_beast_177 rfl (nI_1 _) (by decide) rfl ?_
    refine x_goto (pc := 180) (tgt := 150) dX10_beast_180 (by decide) ?_
    rw [up2_self (hf i hi)]
    exact ih (i + 1) (by omega)

set_option maxHeartbeats 4000000 in
set_option maxRecDepth 100000 in
theorem m_beast {T : xT} {n : Nat} {sh : Nat → Nat × Nat} {I : xI} {R : xR} {L : xL} {P : xPost} {M : Nat} (hM : xModel sh R M) {V : xV} {B : Nat} (h : MDV I M V) (hv : VOK V B) {x y z w : Int32} (K : ∀ I2 : xI, MDV I2 M (spBeast V x y z w).2 → mdP M I I2 → P (n, sh, 0, 0) I2 R L (some (.int (spBeast V x y z w).1)))  : XM T zX10_beast 2 [.ref M, .int x, .int y, .int z, .int w] n sh I R L P := by
  obtain ⟨v6, v12, v10, vb, vf, vw, vm, vta, vte, vod, vrg, vdi⟩ := id hv
  refine x_aload_n (pc := 0) dX10_beast_0 rfl rfl ?_
  refine x_iload_n (pc := 1) dX10_beast_1 rfl rfl ?_
  refine x_iconst (pc := 2) (v := 0) dX10_beast_2 (by decide) ?_
  refine x_bipush (pc := 3) (v := 6) dX10_beast_3 (by decide) ?_
  refine x_callV (pc := 5) (As := [.int _, .int _, .int _]) dX10_beast_5 km_X10_in kv_X10_in kl_RX10_231 hM.s rfl rfl (by decide) ⟨Nat.le_refl _, Nat.le_refl _⟩ rfl (Nat.le_of_ble_eq_true rfl) (Nat.le_of_ble_eq_true rfl) (m_in hM.s (fun p1 p2 => ⟨rfl, rfl, ?_⟩) (fun h1 => ⟨rfl, rfl, ?_⟩))
  · skip
    obtain ⟨k, hk, ek⟩ := c_isKind_k p1 p2
    subst ek
    refine x_if_eq_f (pc := 8) (tgt := 19) dX10_beast_8 (by decide) (by decide) ?_
    refine x_aload_n (pc := 11) dX10_beast_11 rfl rfl ?_
    refine x_iload_n (pc := 12) dX10_beast_12 rfl rfl ?_
    refine x_callV (pc := 13) (As := [.int _]) dX10_beast_13 km_X10_isCell kv_X10_isCell kl_RX10_235 hM.s rfl rfl (by decide) ⟨Nat.le_refl _, Nat.le_refl _⟩ rfl (Nat.le_of_ble_eq_true rfl) (Nat.le_of_ble_eq_true rfl) (m_isCell hM.s (fun c hc ec => ⟨rfl, rfl, ?_⟩) (fun h2 => ⟨rfl, rfl, ?_⟩))
    · skip
      subst ec
      refine x_if_ne_t (pc := 16) (tgt := 21) dX10_beast_16 (by decide) (by decide) ?_
      refine x_aload_n (pc := 21) dX10_beast_21 rfl rfl ?_
      refine x_iload_n (pc := 22) dX10_beast_22 rfl rfl ?_
      refine x_iconst (pc := 23) (v := 0) dX10_beast_23 (by decide) ?_
      refine x_bipush (pc := 24) (v := 9) dX10_beast_24 (by decide) ?_
      refine x_callV (pc := 26) (As := [.int _, .int _, .int _]) dX10_beast_26 km_X10_in kv_X10_in kl_RX10_231 hM.s rfl rfl (by decide) ⟨Nat.le_refl _, Nat.le_refl _⟩ rfl (Nat.le_of_ble_eq_true rfl) (Nat.le_of_ble_eq_true rfl) (m_in hM.s (fun p1 p2 => ⟨rfl, rfl, ?_⟩) (fun g1 => ⟨rfl, rfl, ?_⟩))
      · skip
        obtain ⟨v, hv9, ev⟩ := dig_k p1 p2
        subst ev
        refine x_if_eq_f (pc := 29) (tgt := 44) dX10_beast_29 (by decide) (by decide) ?_
        refine x_aload_n (pc := 32) dX10_beast_32 rfl rfl ?_
        refine x_iload (pc := 33) dX10_beast_33 rfl ?_
        refine x_iconst (pc := 35) (v := 0) dX10_beast_35 (by decide) ?_
        refine x_bipush (pc := 36) (v := 9) dX10_beast_36 (by decide) ?_
        refine x_callV (pc := 38) (As := [.int _, .int _, .int _]) dX10_beast_38 km_X10_in kv_X10_in kl_RX10_231 hM.s rfl rfl (by decide) ⟨Nat.le_refl _, Nat.le_refl _⟩ rfl (Nat.le_of_ble_eq_true rfl) (Nat.le_of_ble_eq_true rfl) (m_in hM.s (fun p1 p2 => ⟨rfl, rfl, ?_⟩) (fun g2 => ⟨rfl, rfl, ?_⟩))
        · skip
          obtain ⟨hu, hhu, ehu⟩ := dig_k p1 p2
          subst ehu
          refine x_if_ne_t (pc := 41) (tgt := 47) dX10_beast_41 (by decide) (by decide) ?_
          refine x_aload_n (pc := 47) dX10_beast_47 rfl rfl ?_
          refine x_iload_n (pc := 48) dX10_beast_48 rfl rfl ?_
          refine x_callV (pc := 49) (As := [.int _]) dX10_beast_49 km_X10_beastIn kv_X10_beastIn kl_RX10_239 hM.s rfl rfl (by decide) ⟨Nat.le_refl _, Nat.le_refl _⟩ rfl (Nat.le_of_ble_eq_true rfl) (Nat.le_of_ble_eq_true rfl) (m_beastIn (x := c) hM h.1 v6 (fun i hi => h.2.2.2.2.2.2.2.1 2 (by decide) i hi) (fun i hi => (vb i hi).2.2.1) hc (fun k2 hk2 hh => ⟨rfl, rfl, ?_⟩) (fun hf => ⟨rfl, rfl, ?_⟩))
          · skip
            refine x_ifn_ge (pc := 52) (tgt := 71) (a := k2) dX10_beast_52 (by decide) (by omega) ?_
            refine x_bipush (pc := 71) (v := -3) dX10_beast_71 (by decide) ?_
            refine x_ireturn (pc := 73) dX10_beast_73 ⟨_, rfl, rfl⟩ ⟨Nat.le_refl _, Nat.le_refl _⟩ ?_
            have e9 : spBeast V (nI k) (nI v) (nI c) (nI hu) = (-3, V) := (spB_s hk hc hv9 hhu).trans (if_pos (by first | exact Or.inl hh | exact Or.inr (Or.inr hs) | exact Or.inr (Or.inl c60)))
            have h9 := K I (by rw [e9]; exact h) mdP.rf
            rw [e9] at h9
            exact h9
          · skip
            refine x_if_ge_f (pc := 52) (tgt := 71) dX10_beast_52 (by decide) (by decide) ?_
            refine x_aload_n (pc := 55) dX10_beast_55 rfl rfl ?_
            refine x_get (pc := 56) dX10_beast_56 kf_RX10_13 hM.s rfl ?_
            rw [h.2.1]
            refine x_iload_n (pc := 59) dX10_beast_59 rfl rfl ?_
            refine x_icmpn_eq (pc := 60) (tgt := 71) (a := (V 8 1)) (b := c) dX10_beast_60 (by decide) (by omega) (by omega) (fun c60 => ?_) (fun c60 => ?_)
            · skip
              refine x_bipush (pc := 71) (v := -3) dX10_beast_71 (by decide) ?_
              refine x_ireturn (pc := 73) dX10_beast_73 ⟨_, rfl, rfl⟩ ⟨Nat.le_refl _, Nat.le_refl _⟩ ?_
              have e9 : spBeast V (nI k) (nI v) (nI c) (nI hu) = (-3, V) := (spB_s hk hc hv9 hhu).trans (if_pos (by first | exact Or.inl hh | exact Or.inr (Or.inr hs) | exact Or.inr (Or.inl c60)))
              have h9 := K I (by rw [e9]; exact h) mdP.rf
              rw [e9] at h9
              exact h9
            · skip
              refine x_aload_n (pc := 63) dX10_beast_63 rfl rfl ?_
              refine x_iload_n (pc := 64) dX10_beast_64 rfl rfl ?_
              refine x_callV (pc := 65) (As := [.int _]) dX10_beast_65 km_X10_isStool kv_X10_isStool kl_RX10_243 hM.s rfl rfl (by decide) ⟨Nat.le_refl _, Nat.le_refl _⟩ rfl (Nat.le_of_ble_eq_true rfl) (Nat.le_of_ble_eq_true rfl) (m_isStool (x := c) hM h.1 v6 (fun i hi => h.2.2.2.2.2.2.2.1 3 (by decide) i hi) (fun i hi => (vb i hi).2.2.2.1) hc (fun hs => ⟨rfl, rfl, ?_⟩) (fun hg => ⟨rfl, rfl, ?_⟩))
              · skip
                refine x_if_eq_f (pc := 68) (tgt := 74) dX10_beast_68 (by decide) (by decide) ?_
                refine x_bipush (pc := 71) (v := -3) dX10_beast_71 (by decide) ?_
                refine x_ireturn (pc := 73) dX10_beast_73 ⟨_, rfl, rfl⟩ ⟨Nat.le_refl _, Nat.le_refl _⟩ ?_
                have e9 : spBeast V (nI k) (nI v) (nI c) (nI hu) = (-3, V) := (spB_s hk hc hv9 hhu).trans (if_pos (by first | exact Or.inl hh | exact Or.inr (Or.inr hs) | exact Or.inr (Or.inl c60)))
                have h9 := K I (by rw [e9]; exact h) mdP.rf
                rw [e9] at h9
                exact h9
              · skip
                refine x_if_eq_t (pc := 68) (tgt := 74) dX10_beast_68 (by decide) (by decide) ?_
                refine x_aload_n (pc := 74) dX10_beast_74 rfl rfl ?_
                refine x_get (pc := 75) dX10_beast_75 kf_RX10_7 hM.s rfl ?_
                rw [h.1]
                refine x_bipush (pc := 78) (v := 6) dX10_beast_78 (by decide) ?_
                refine x_icmpn_ne (pc := 80) (tgt := 86) (a := (V 8 0)) (b := 6) dX10_beast_80 (by decide) (by omega) (by decide) (fun c80 => ?_) (fun c80 => ?_)
                · skip
                  have a0 := @addM_0 I M (V 8 0) (nwB k v c hu)
                  have hn6 : V 8 0 < 6 := by omega
                  refine x_aload_n (pc := 86) dX10_beast_86 rfl rfl ?_
                  refine x_getr (pc := 87) dX10_beast_87 kf_RX10_22 hM.s rfl hM.f0 ?_
                  refine x_aload_n (pc := 90) dX10_beast_90 rfl rfl ?_
                  refine x_get (pc := 91) dX10_beast_91 kf_RX10_7 hM.s rfl ?_
                  rw [h.1]
                  refine x_iload_n (pc := 94) dX10_beast_94 rfl rfl ?_
                  refine x_iastn (pc := 95) (a := (V 8 0)) dX10_beast_95 hM.s0 (by omega) (by omega) ?_
                  have a1 := addM_s (x := k) a0 (by decide) rfl rfl
                  refine x_aload_n (pc := 96) dX10_beast_96 rfl rfl ?_
                  refine x_getr (pc := 97) dX10_beast_97 kf_RX10_26 hM.s rfl hM.f1 ?_
                  refine x_aload_n (pc := 100) dX10_beast_100 rfl rfl ?_
                  refine x_get (pc := 101) dX10_beast_101 kf_RX10_7 hM.s rfl ?_
                  rw [((congrFun (a1.1 M (by omega)) 0).trans h.1)]
                  refine x_iload_n (pc := 104) dX10_beast_104 rfl rfl ?_
                  refine x_iastn (pc := 105) (a := (V 8 0)) dX10_beast_105 hM.s1 (by omega) (by omega) ?_
                  have a2 := addM_s (x := v) a1 (by decide) rfl rfl
                  refine x_aload_n (pc := 106) dX10_beast_106 rfl rfl ?_
                  refine x_getr (pc := 107) dX10_beast_107 kf_RX10_29 hM.s rfl hM.f2 ?_
                  refine x_aload_n (pc := 110) dX10_beast_110 rfl rfl ?_
                  refine x_get (pc := 111) dX10_beast_111 kf_RX10_7 hM.s rfl ?_
                  rw [((congrFun (a2.1 M (by omega)) 0).trans h.1)]
                  refine x_iload_n (pc := 114) dX10_beast_114 rfl rfl ?_
                  refine x_iastn (pc := 115) (a := (V 8 0)) dX10_beast_115 hM.s2 (by omega) (by omega) ?_
                  have a3 := addM_s (x := c) a2 (by decide) rfl rfl
                  refine x_aload_n (pc := 116) dX10_beast_116 rfl rfl ?_
                  refine x_getr (pc := 117) dX10_beast_117 kf_RX10_32 hM.s rfl hM.f3 ?_
                  refine x_aload_n (pc := 120) dX10_beast_120 rfl rfl ?_
                  refine x_get (pc := 121) dX10_beast_121 kf_RX10_7 hM.s rfl ?_
                  rw [((congrFun (a3.1 M (by omega)) 0).trans h.1)]
                  refine x_iload_n (pc := 124) dX10_beast_124 rfl rfl ?_
                  refine x_iastn (pc := 125) (a := (V 8 0)) dX10_beast_125 hM.s3 (by omega) (by omega) ?_
                  have a4 := addM_s (x := c) a3 (by decide) rfl rfl
                  refine x_aload_n (pc := 126) dX10_beast_126 rfl rfl ?_
                  refine x_getr (pc := 127) dX10_beast_127 kf_RX10_35 hM.s rfl hM.f4 ?_
                  refine x_aload_n (pc := 130) dX10_beast_130 rfl rfl ?_
                  refine x_get (pc := 131) dX10_beast_131 kf_RX10_7 hM.s rfl ?_
                  rw [((congrFun (a4.1 M (by omega)) 0).trans h.1)]
                  refine x_iload (pc := 134) dX10_beast_134 rfl ?_
                  refine x_iastn (pc := 136) (a := (V 8 0)) dX10_beast_136 hM.s4 (by omega) (by omega) ?_
                  have a5 := addM_s (x := hu) a4 (by decide) rfl rfl
                  refine x_aload_n (pc := 137) dX10_beast_137 rfl rfl ?_
                  refine x_getr (pc := 138) dX10_beast_138 kf_RX10_38 hM.s rfl hM.f5 ?_
                  refine x_aload_n (pc := 141) dX10_beast_141 rfl rfl ?_
                  refine x_get (pc := 142) dX10_beast_142 kf_RX10_7 hM.s rfl ?_
                  rw [((congrFun (a5.1 M (by omega)) 0).trans h.1)]
                  refine x_iconst (pc := 145) (v := 0) dX10_beast_145 (by decide) ?_
                  refine x_iastn (pc := 146) (a := (V 8 0)) dX10_beast_146 hM.s5 (by omega) (by omega) ?_
                  have a6 := addM_s (x := 0) a5 (by decide) rfl rfl
                  refine x_iconst (pc := 147) (v := 0) dX10_beast_147 (by decide) ?_
                  refine x_istore (pc := 148) (lv' := [(0, .ref M), (1, .int (nI k)), (2, .int (nI v)), (3, .int (nI c)), (4, .int (nI hu)), (5, .int 0)]) dX10_beast_148 (by decide) rfl ?_
                  have e9 : spBeast V (nI k) (nI v) (nI c) (nI hu) = (nI (V 8 0), beV V k v c hu) := (spB_s hk hc hv9 hhu).trans ((if_neg (fun q => q.elim (fun q => by rw [hf] at q; cases q) (fun q => q.elim c60 (fun q => by rw [hg] at q; cases q)))).trans (if_pos hn6))
                  have h9 := K _ (by rw [e9]; exact h.oB a6) ⟨fun a p => (up2_row (by omega)).trans (a6.1 a (by omega)), fun j p => (up2_k (by omega)).trans (congrFun (a6.1 M (by omega)) j)⟩
                  rw [e9] at h9
                  exact lm_beast hM hn6 ((congrFun (a6.1 M (by omega)) 0).trans h.1) (f := V 5) (fun i hi => ((a6.2.1 5 (by decide)).2 i hi).trans (h.2.2.2.2.2.2.2.1 5 (by decide) i hi)) vf h9 (V 8 0) 0 (by omega)
                · skip
                  refine x_bipush (pc := 83) (v := -4) dX10_beast_83 (by decide) ?_
                  refine x_ireturn (pc := 85) dX10_beast_85 ⟨_, rfl, rfl⟩ ⟨Nat.le_refl _, Nat.le_refl _⟩ ?_
                  have e9 : spBeast V (nI k) (nI v) (nI c) (nI hu) = (-4, V) := (spB_s hk hc hv9 hhu).trans ((if_neg (fun q => q.elim (fun q => by rw [hf] at q; cases q) (fun q => q.elim c60 (fun q => by rw [hg] at q; cases q)))).trans (if_neg (by omega)))
                  have h9 := K I (by rw [e9]; exact h) mdP.rf
                  rw [e9] at h9
                  exact h9
        · skip
          refine x_if_ne_f (pc := 41) (tgt := 47) dX10_beast_41 (by decide) (by decide) ?_
          refine x_bipush (pc := 44) (v := -2) dX10_beast_44 (by decide) ?_
          refine x_ireturn (pc := 46) dX10_beast_46 ⟨_, rfl, rfl⟩ ⟨Nat.le_refl _, Nat.le_refl _⟩ ?_
          have e9 : spBeast V (nI k) (nI v) (nI c) (w) = (-2, V) := by first | exact spB_3 hk hc (dig_n g1) | exact spB_4 hk hc (dig_n g2)
          have h9 := K I (by rw [e9]; exact h) mdP.rf
          rw [e9] at h9
          exact h9
      · skip
        refine x_if_eq_t (pc := 29) (tgt := 44) dX10_beast_29 (by decide) (by decide) ?_
        refine x_bipush (pc := 44) (v := -2) dX10_beast_44 (by decide) ?_
        refine x_ireturn (pc := 46) dX10_beast_46 ⟨_, rfl, rfl⟩ ⟨Nat.le_refl _, Nat.le_refl _⟩ ?_
        have e9 : spBeast V (nI k) (y) (nI c) (w) = (-2, V) := by first | exact spB_3 hk hc (dig_n g1) | exact spB_4 hk hc (dig_n g2)
        have h9 := K I (by rw [e9]; exact h) mdP.rf
        rw [e9] at h9
        exact h9
    · skip
      refine x_if_ne_f (pc := 16) (tgt := 21) dX10_beast_16 (by decide) (by decide) ?_
      refine x_iconst (pc := 19) (v := -1) dX10_beast_19 (by decide) ?_
      refine x_ireturn (pc := 20) dX10_beast_20 ⟨_, rfl, rfl⟩ ⟨Nat.le_refl _, Nat.le_refl _⟩ ?_
      have e9 : spBeast V (nI k) (y) (z) (w) = (-1, V) := by first | exact spB_1 (kind_n h1) | exact spB_2 (cell_n h2)
      have h9 := K I (by rw [e9]; exact h) mdP.rf
      rw [e9] at h9
      exact h9
  · skip
    refine x_if_eq_t (pc := 8) (tgt := 19) dX10_beast_8 (by decide) (by decide) ?_
    refine x_iconst (pc := 19) (v := -1) dX10_beast_19 (by decide) ?_
    refine x_ireturn (pc := 20) dX10_beast_20 ⟨_, rfl, rfl⟩ ⟨Nat.le_refl _, Nat.le_refl _⟩ ?_
    have e9 : spBeast V (x) (y) (z) (w) = (-1, V) := by first | exact spB_1 (kind_n h1) | exact spB_2 (cell_n h2)
    have h9 := K I (by rw [e9]; exact h) mdP.rf
    rw [e9] at h9
    exact h9

