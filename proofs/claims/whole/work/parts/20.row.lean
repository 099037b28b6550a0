/-! ===== Row: at r with its items at q, room for len ===== -/
def xRow (sh : Nat → Nat × Nat) (R : xR) (r q len : Nat) : Prop := sh r = (0, 5) ∧ R r 0 = some q ∧ sh q = (1, len) ∧ len < 1000000
def rAt (m : Int32) (len : Nat) (f : Nat → Int32) (i : Int32) : Int32 := if i < 0 then -1 else if m ≤ i then -1 else if nI len ≤ i then -1 else f i.toNatClampNeg
theorem rAt_in {m k len : Nat} {f : Nat → Int32} (hk : k < m) (hm : m ≤ len) (hl : len < 2 ^ 31) : rAt (nI m) len f (nI k) = f k := by
  unfold rAt
  rw [if_neg (nI_pos (by omega)), if_neg (nI_ge hk (by omega)), if_neg (nI_ge (by omega) hl), nI_clamp (by omega)]
theorem rAt_out {m k len : Nat} {f : Nat → Int32} (hk : m ≤ k) (hl : k < 2 ^ 31) : rAt (nI m) len f (nI k) = -1 := by
  unfold rAt
  rw [if_neg (nI_pos hl), if_pos (nI_le hk hl)]
theorem rAt_neg {m : Int32} {len : Nat} {f : Nat → Int32} {i : Int32} (h : i < 0) : rAt m len f i = -1 := if_pos h
set_option maxHeartbeats 4000000 in
set_option maxRecDepth 100000 in
theorem c_at {T : xT} {n : Nat} {sh : Nat → Nat × Nat} {I : xI} {R : xR} {L : xL} {P : xPost} {r q len : Nat} {i : Int32} (hw : xRow sh R r q len) (K : P (n, sh, 0, 0) I R L (some (.int (rAt (I r 1) len (I q) i)))) : XM T zX5_at 0 [.ref r, .int i] n sh I R L P := by
  have hlen : len < 2 ^ 31 := Nat.lt_trans hw.2.2.2 (by decide)
  refine x_iload_n (pc := 0) dX5_at_0 rfl rfl ?_
  refine x_if_lt (pc := 1) (tgt := 30) dX5_at_1 (by decide) (fun c1 => ?_) (fun c1 => ?_)
  · skip
    refine x_iconst (pc := 30) (v := -1) dX5_at_30 (by decide) ?_
    refine x_ireturn (pc := 31) dX5_at_31 ⟨_, rfl, rfl⟩ ⟨Nat.le_refl _, Nat.le_refl _⟩ ?_
    exact xvi K (by unfold rAt; simp only [*, if_true, if_false, ite_true, ite_false])
  · skip
    refine x_iload_n (pc := 4) dX5_at_4 rfl rfl ?_
    refine x_aload_n (pc := 5) dX5_at_5 rfl rfl ?_
    refine x_get (pc := 6) dX5_at_6 kf_RX5_9 hw.1 rfl ?_
    refine x_icmp_ge (pc := 9) (tgt := 30) dX5_at_9 (by decide) (fun c9 => ?_) (fun c9 => ?_)
    · skip
      refine x_iconst (pc := 30) (v := -1) dX5_at_30 (by decide) ?_
      refine x_ireturn (pc := 31) dX5_at_31 ⟨_, rfl, rfl⟩ ⟨Nat.le_refl _, Nat.le_refl _⟩ ?_
      exact xvi K (by unfold rAt; simp only [*, if_true, if_false, ite_true, ite_false])
    · skip
      refine x_iload_n (pc := 12) dX5_at_12 rfl rfl ?_
      refine x_aload_n (pc := 13) dX5_at_13 rfl rfl ?_
      refine x_getr (pc := 14) dX5_at_14 kf_RX5_21 hw.1 rfl hw.2.1 ?_
      refine x_alen (pc := 17) (v := nI len) dX5_at_17 hw.2.2.1 ⟨by decide, by decide⟩ rfl ?_
      refine x_icmp_ge (pc := 18) (tgt := 30) dX5_at_18 (by decide) (fun c18 => ?_) (fun c18 => ?_)
      · skip
        refine x_iconst (pc := 30) (v := -1) dX5_at_30 (by decide) ?_
        refine x_ireturn (pc := 31) dX5_at_31 ⟨_, rfl, rfl⟩ ⟨Nat.le_refl _, Nat.le_refl _⟩ ?_
        exact xvi K (by unfold rAt; simp only [*, if_true, if_false, ite_true, ite_false])
      · skip
        refine x_aload_n (pc := 21) dX5_at_21 rfl rfl ?_
        refine x_getr (pc := 22) dX5_at_22 kf_RX5_21 hw.1 rfl hw.2.1 ?_
        refine x_iload_n (pc := 25) dX5_at_25 rfl rfl ?_
        refine x_iald (pc := 26) dX5_at_26 hw.2.2.1 ?_ ?_
        · exact vp_in_lt c1 c18 hlen
        refine x_goto (pc := 27) (tgt := 31) dX5_at_27 (by decide) ?_
        refine x_ireturn (pc := 31) dX5_at_31 ⟨_, rfl, rfl⟩ ⟨Nat.le_refl _, Nat.le_refl _⟩ ?_
        exact xvi K (by unfold rAt; simp only [*, if_true, if_false, ite_true, ite_false])

set_option maxHeartbeats 4000000 in
set_option maxRecDepth 100000 in
theorem c_put {T : xT} {n : Nat} {sh : Nat → Nat × Nat} {I : xI} {R : xR} {L : xL} {P : xPost} {r q len m k : Nat} {x : Int32} (hw : xRow sh R r q len) (hm : I r 1 = nI m) (hk : k < m) (hml : m ≤ len) (K : P (n, sh, 0, 0) (up2 I q k x) R L none) : XM T zX5_put 0 [.ref r, .int (nI k), .int x] n sh I R L P := by
  obtain ⟨w1, w2, w3, w4⟩ := hw
  refine x_iload_n (pc := 0) dX5_put_0 rfl rfl ?_
  refine x_ifn_lt (pc := 1) (a := k) dX5_put_1 ⟨28, by decide⟩ (by omega) ?_
  refine x_iload_n (pc := 4) dX5_put_4 rfl rfl ?_
  refine x_aload_n (pc := 5) dX5_put_5 rfl rfl ?_
  refine x_get (pc := 6) dX5_put_6 kf_RX5_9 w1 rfl ?_
  rw [hm]
  refine x_icmpn_ge_f (pc := 9) (tgt := 28) (a := k) (b := m) dX5_put_9 (by decide) (by omega) (by omega) (by omega) ?_
  refine x_iload_n (pc := 12) dX5_put_12 rfl rfl ?_
  refine x_aload_n (pc := 13) dX5_put_13 rfl rfl ?_
  refine x_getr (pc := 14) dX5_put_14 kf_RX5_21 w1 rfl w2 ?_
  refine x_alen (pc := 17) (v := nI len) dX5_put_17 w3 ⟨by decide, by decide⟩ rfl ?_
  refine x_icmpn_ge_f (pc := 18) (tgt := 28) (a := k) (b := len) dX5_put_18 (by decide) (by omega) (by omega) (by omega) ?_
  refine x_aload_n (pc := 21) dX5_put_21 rfl rfl ?_
  refine x_getr (pc := 22) dX5_put_22 kf_RX5_21 w1 rfl w2 ?_
  refine x_iload_n (pc := 25) dX5_put_25 rfl rfl ?_
  refine x_iload_n (pc := 26) dX5_put_26 rfl rfl ?_
  refine x_iastn (pc := 27) (a := k) dX5_put_27 w3 (by omega) (by omega) ?_
  refine x_return (pc := 28) dX5_put_28 rfl ⟨Nat.le_refl _, Nat.le_refl _⟩ ?_
  exact K

set_option maxHeartbeats 4000000 in
set_option maxRecDepth 100000 in
theorem c_add {T : xT} {n : Nat} {sh : Nat → Nat × Nat} {I : xI} {R : xR} {L : xL} {P : xPost} {r q len m : Nat} {x : Int32} (hw : xRow sh R r q len) (hm : I r 1 = nI m) (hml : m < len) (K : P (n, sh, 0, 0) (up2 (up2 I q m x) r 1 (nI (m + 1))) R L none) : XM T zX5_add 0 [.ref r, .int x] n sh I R L P := by
  obtain ⟨w1, w2, w3, w4⟩ := hw
  have hrq : r ≠ q := fun h => by rw [h, w3] at w1; cases w1
  have hr2 : ∀ z, up2 I q m z r 1 = I r 1 := fun z => up2_a hrq
  refine x_aload_n (pc := 0) dX5_add_0 rfl rfl ?_
  refine x_get (pc := 1) dX5_add_1 kf_RX5_9 w1 rfl ?_
  rw [hm]
  refine x_ifn_lt (pc := 4) (a := m) dX5_add_4 ⟨39, by decide⟩ (by omega) ?_
  refine x_aload_n (pc := 7) dX5_add_7 rfl rfl ?_
  refine x_get (pc := 8) dX5_add_8 kf_RX5_9 w1 rfl ?_
  rw [hm]
  refine x_aload_n (pc := 11) dX5_add_11 rfl rfl ?_
  refine x_getr (pc := 12) dX5_add_12 kf_RX5_21 w1 rfl w2 ?_
  refine x_alen (pc := 15) (v := nI len) dX5_add_15 w3 ⟨by decide, by decide⟩ rfl ?_
  refine x_icmpn_ge_f (pc := 16) (tgt := 39) (a := m) (b := len) dX5_add_16 (by decide) (by omega) (by omega) (by omega) ?_
  refine x_aload_n (pc := 19) dX5_add_19 rfl rfl ?_
  refine x_getr (pc := 20) dX5_add_20 kf_RX5_21 w1 rfl w2 ?_
  refine x_aload_n (pc := 23) dX5_add_23 rfl rfl ?_
  refine x_get (pc := 24) dX5_add_24 kf_RX5_9 w1 rfl ?_
  rw [hm]
  refine x_iload_n (pc := 27) dX5_add_27 rfl rfl ?_
  refine x_iastn (pc := 28) (a := m) dX5_add_28 w3 (by omega) (by omega) ?_
  refine x_aload_n (pc := 29) dX5_add_29 rfl rfl ?_
  refine x_dup (pc := 30) dX5_add_30 rfl ?_
  refine x_get (pc := 31) dX5_add_31 kf_RX5_9 w1 rfl ?_
  rw [hr2, hm]
  refine x_iconst (pc := 34) (v := 1) dX5_add_34 (by decide) ?_
  refine x_iaddn (pc := 35) (a := m) (b := 1) dX5_add_35 ?_
  refine x_put (pc := 36) dX5_add_36 kf_RX5_9 w1 rfl (Or.inl kb_5_1) ?_
  refine x_return (pc := 39) dX5_add_39 rfl ⟨Nat.le_refl _, Nat.le_refl _⟩ ?_
  exact K

set_option maxHeartbeats 4000000 in
set_option maxRecDepth 100000 in
theorem c_add_full {T : xT} {n : Nat} {sh : Nat → Nat × Nat} {I : xI} {R : xR} {L : xL} {P : xPost} {r q len m : Nat} {x : Int32} (hw : xRow sh R r q len) (hm : I r 1 = nI m) (hml : len ≤ m) (hm2 : m < 2 ^ 31) (K : P (n, sh, 0, 0) I R L none) : XM T zX5_add 0 [.ref r, .int x] n sh I R L P := by
  obtain ⟨w1, w2, w3, w4⟩ := hw
  refine x_aload_n (pc := 0) dX5_add_0 rfl rfl ?_
  refine x_get (pc := 1) dX5_add_1 kf_RX5_9 w1 rfl ?_
  rw [hm]
  refine x_ifn_lt (pc := 4) (a := m) dX5_add_4 ⟨39, by decide⟩ (by omega) ?_
  refine x_aload_n (pc := 7) dX5_add_7 rfl rfl ?_
  refine x_get (pc := 8) dX5_add_8 kf_RX5_9 w1 rfl ?_
  rw [hm]
  refine x_aload_n (pc := 11) dX5_add_11 rfl rfl ?_
  refine x_getr (pc := 12) dX5_add_12 kf_RX5_21 w1 rfl w2 ?_
  refine x_alen (pc := 15) (v := nI len) dX5_add_15 w3 ⟨by decide, by decide⟩ rfl ?_
  refine x_icmpn_ge_t (pc := 16) (tgt := 39) (a := m) (b := len) dX5_add_16 (by decide) (by omega) (by omega) (by omega) ?_
  refine x_return (pc := 39) dX5_add_39 rfl ⟨Nat.le_refl _, Nat.le_refl _⟩ ?_
  exact K

set_option maxHeartbeats 4000000 in
set_option maxRecDepth 100000 in
theorem c_clear {T : xT} {n : Nat} {sh : Nat → Nat × Nat} {I : xI} {R : xR} {L : xL} {P : xPost} {r q len : Nat} (hw : xRow sh R r q len) (K : P (n, sh, 0, 0) (up2 I r 1 0) R L none) : XM T zX5_clear 0 [.ref r] n sh I R L P := by
  obtain ⟨w1, w2, w3, w4⟩ := hw
  refine x_aload_n (pc := 0) dX5_clear_0 rfl rfl ?_
  refine x_iconst (pc := 1) (v := 0) dX5_clear_1 (by decide) ?_
  refine x_put (pc := 2) dX5_clear_2 kf_RX5_9 w1 rfl (Or.inl kb_5_1) ?_
  refine x_return (pc := 5) dX5_clear_5 rfl ⟨Nat.le_refl _, Nat.le_refl _⟩ ?_
  exact K

set_option maxHeartbeats 4000000 in
set_option maxRecDepth 100000 in
theorem l_placeOf {T : xT} {n : Nat} {sh : Nat → Nat × Nat} {I : xI} {R : xR} {L : xL} {P : xPost} {r q len m : Nat} {x : Int32} (hw : xRow sh R r q len) (hm : I r 1 = nI m) (hml : m ≤ len) (K1 : ∀ k, k < m → I q k = x → (∀ j, j < k → ¬ I q j = x) → P (n, sh, 0, 0) I R L (some (.int (nI k)))) (K2 : (∀ j, j < m → ¬ I q j = x) → P (n, sh, 0, 0) I R L (some (.int (-1)))) : ∀ (w i : Nat), i + w = m → (∀ j, j < i → ¬ I q j = x) → X T zX5_placeOf 0 0 0 P 2 [(0, .ref r), (1, .int x), (2, .int (nI i))] [] (n, sh, 0, 0) (I) R L := by
  obtain ⟨w1, w2, w3, w4⟩ := hw
  intro w
  induction w with
  | zero =>
    intro i hi hno
    have : i = m := by omega
    subst this
    refine x_iload_n (pc := 2) dX5_placeOf_2 rfl rfl ?_
    refine x_aload_n (pc := 3) dX5_placeOf_3 rfl rfl ?_
    refine x_get (pc := 4) dX5_placeOf_4 kf_RX5_9 w1 rfl ?_
    rw [hm]
    refine x_icmpn_ge_t (pc := 7) (tgt := 37) (a := i) (b := i) dX5_placeOf_7 (by decide) (by omega) (by omega) (by omega) ?_
    refine x_iconst (pc := 37) (v := -1) dX5_placeOf_37 (by decide) ?_
    refine x_ireturn (pc := 38) dX5_placeOf_38 ⟨_, rfl, rfl⟩ ⟨Nat.le_refl _, Nat.le_refl _⟩ ?_
    exact K2 (fun j hj => hno j (by omega))
  | succ w ih =>
    intro i hi hno
    refine x_iload_n (pc := 2) dX5_placeOf_2 rfl rfl ?_
    refine x_aload_n (pc := 3) dX5_placeOf_3 rfl rfl ?_
    refine x_get (pc := 4) dX5_placeOf_4 kf_RX5_9 w1 rfl ?_
    rw [hm]
    refine x_icmpn_ge (pc := 7) (tgt := 37) (a := i) (b := m) dX5_placeOf_7 (by decide) (by omega) (by omega) (fun c7 => ?_) (fun c7 => ?_)
    · skip
      refine x_iconst (pc := 37) (v := -1) dX5_placeOf_37 (by decide) ?_
      refine x_ireturn (pc := 38) dX5_placeOf_38 ⟨_, rfl, rfl⟩ ⟨Nat.le_refl _, Nat.le_refl _⟩ ?_
      exact K2 (fun j hj => hno j (by omega))
    · skip
      refine x_iload_n (pc := 10) dX5_placeOf_10 rfl rfl ?_
      refine x_aload_n (pc := 11) dX5_placeOf_11 rfl rfl ?_
      refine x_getr (pc := 12) dX5_placeOf_12 kf_RX5_21 w1 rfl w2 ?_
      refine x_alen (pc := 15) (v := nI len) dX5_placeOf_15 w3 ⟨by decide, by decide⟩ rfl ?_
      refine x_icmpn_ge_f (pc := 16) (tgt := 37) (a := i) (b := len) dX5_placeOf_16 (by decide) (by omega) (by omega) (by omega) ?_
      refine x_aload_n (pc := 19) dX5_placeOf_19 rfl rfl ?_
      refine x_getr (pc := 20) dX5_placeOf_20 kf_RX5_21 w1 rfl w2 ?_
      refine x_iload_n (pc := 23) dX5_placeOf_23 rfl rfl ?_
      refine x_ialdn (pc := 24) (a := i) dX5_placeOf_24 w3 (by omega) (by omega) ?_
      refine x_iload_n (pc := 25) dX5_placeOf_25 rfl rfl ?_
      refine x_icmp_ne (pc := 26) (tgt := 31) dX5_placeOf_26 (by decide) (fun c26 => ?_) (fun c26 => ?_)
      · skip
        refine x_iinc (pc := 31) (v := nI (i + 1)) (lv' := [(0, .ref r), (1, .int x), (2, .int (nI (i + 1)))]) dX5_placeOf_31 rfl (nI_1 _) (by decide) rfl ?_
        refine x_goto (pc := 34) (tgt := 2) dX5_placeOf_34 (by decide) ?_
        exact ih (i + 1) (by omega) (fun j hj => (Nat.lt_succ_iff_lt_or_eq.mp hj).elim (hno j) (fun h => h ▸ c26))
      · skip
        refine x_iload_n (pc := 29) dX5_placeOf_29 rfl rfl ?_
        refine x_ireturn (pc := 30) dX5_placeOf_30 ⟨_, rfl, rfl⟩ ⟨Nat.le_refl _, Nat.le_refl _⟩ ?_
        exact K1 i (by omega) (by simpa using c26) hno

set_option maxHeartbeats 4000000 in
set_option maxRecDepth 100000 in
theorem c_placeOf {T : xT} {n : Nat} {sh : Nat → Nat × Nat} {I : xI} {R : xR} {L : xL} {P : xPost} {r q len m : Nat} {x : Int32} (hw : xRow sh R r q len) (hm : I r 1 = nI m) (hml : m ≤ len) (K1 : ∀ k, k < m → I q k = x → (∀ j, j < k → ¬ I q j = x) → P (n, sh, 0, 0) I R L (some (.int (nI k)))) (K2 : (∀ j, j < m → ¬ I q j = x) → P (n, sh, 0, 0) I R L (some (.int (-1)))) : XM T zX5_placeOf 0 [.ref r, .int x] n sh I R L P := by
  refine x_iconst (pc := 0) (v := 0) dX5_placeOf_0 (by decide) ?_
  refine x_istore_n (pc := 1) (lv' := [(0, .ref r), (1, .int x), (2, .int 0)]) dX5_placeOf_1 rfl (by decide) rfl ?_
  exact l_placeOf hw hm hml K1 K2 m 0 (by omega) (fun j hj => absurd hj (by omega))

