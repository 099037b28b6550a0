/-! ===== the static functions of LionRing ===== -/
def ap (a b : Nat) : Nat := if a < b then b - a else a - b
def mx (a b : Nat) : Nat := if a < b then b else a
def mn (a b : Nat) : Nat := if b < a then b else a
def rnd (a b : Nat) : Nat := ap (a / 6) (b / 6) + ap (a % 6) (b % 6)
def far (a b : Nat) : Nat := mx (ap (a / 6) (b / 6)) (ap (a % 6) (b % 6))
theorem ap_lt {a b m : Nat} (ha : a < m) (hb : b < m) : ap a b < m := by unfold ap; split <;> omega
theorem rnd_lt {a b : Nat} (ha : a < 36) (hb : b < 36) : rnd a b < 12 := by
  have h1 := ap_lt (a := a / 6) (b := b / 6) (m := 6) (by omega) (by omega)
  have h2 := ap_lt (a := a % 6) (b := b % 6) (m := 6) (by omega) (by omega)
  unfold rnd
  omega
theorem far_lt {a b : Nat} (ha : a < 36) (hb : b < 36) : far a b < 6 := by
  have h1 := ap_lt (a := a / 6) (b := b / 6) (m := 6) (by omega) (by omega)
  have h2 := ap_lt (a := a % 6) (b := b % 6) (m := 6) (by omega) (by omega)
  unfold far mx
  split <;> omega
theorem xabs_sub {a b : Nat} (ha : a < 2 ^ 30) (hb : b < 2 ^ 30) : (if 0 ≤ nI a - nI b then nI a - nI b else 0 - (nI a - nI b)) = nI (ap a b) := by
  unfold ap
  have h0 : (0 : Int32) = nI 0 := rfl
  by_cases h : a < b
  · rw [if_pos h, if_neg (fun q => absurd (pk_sneg hb h) (by
      intro z
      have h1 := Int32.le_iff_toInt_le.mp q
      have h2 := Int32.lt_iff_toInt_lt.mp z
      omega))]
    rw [← pk_sub (Nat.le_of_lt h), h0]
    apply Int32.toBitVec_inj.mp
    simp only [Int32.toBitVec_sub]
    have : (nI 0).toBitVec = 0#32 := rfl
    rw [this]
    generalize (nI a).toBitVec = x
    generalize (nI b).toBitVec = y
    apply BitVec.eq_of_toNat_eq
    simp only [BitVec.toNat_sub, BitVec.toNat_ofNat]
    have := x.isLt
    have := y.isLt
    omega
  · rw [if_neg h, pk_sub (by omega), h0, if_pos (nI_le (Nat.zero_le _) (by omega))]
theorem xmax_n {a b : Nat} (ha : a < 2 ^ 31) (hb : b < 2 ^ 31) : (if nI a < nI b then nI b else nI a) = nI (mx a b) := by
  unfold mx
  by_cases h : a < b
  · rw [if_pos h, if_pos ((nI_ltI ha hb).mpr h)]
  · rw [if_neg h, if_neg (fun q => h ((nI_ltI ha hb).mp q))]
theorem xmin_n {a b : Nat} (ha : a < 2 ^ 31) (hb : b < 2 ^ 31) : (if nI b < nI a then nI b else nI a) = nI (mn a b) := by
  unfold mn
  by_cases h : b < a
  · rw [if_pos h, if_pos ((nI_ltI hb ha).mpr h)]
  · rw [if_neg h, if_neg (fun q => h ((nI_ltI hb ha).mp q))]
/-- the cell beside one -/
def nxt (c s : Nat) : Option Nat := if s = 0 then (if c < 6 then none else some (c - 6)) else if s = 1 then (if c % 6 = 0 then none else some (c - 1)) else if s = 2 then (if 5 ≤ c % 6 then none else some (c + 1)) else if 30 ≤ c then none else some (c + 6)
theorem nxt_lt {c s z : Nat} (hc : c < 36) (h : nxt c s = some z) : z < 36 := by
  unfold nxt at h
  split at h
  · split at h <;> simp at h; omega
  · split at h
    · split at h <;> simp at h; omega
    · split at h
      · split at h <;> simp at h; omega
      · split at h <;> simp at h; omega
def kAb (k : Nat) : Nat := [7, 0, 0, 0, 1, 1, 2].getD k 7
def kAbI (k : Nat) : Int32 := [-1, 0, 0, 0, 1, 1, 2].getD k (-1)
def isOne (k o : Nat) : Bool := k == o || kAb k == o || kAb (kAb k) == o
set_option maxHeartbeats 4000000 in
set_option maxRecDepth 100000 in
theorem c_isWithin {T : xT} {n : Nat} {sh : Nat → Nat × Nat} {I : xI} {R : xR} {L : xL} {P : xPost} {x lo hi : Int32} (K1 : ¬ x < lo → ¬ hi < x → P (n, sh, 0, 0) I R L (some (.int 1))) (K2 : (x < lo ∨ hi < x) → P (n, sh, 0, 0) I R L (some (.int 0))) : XM T zX9_isWithin 0 [.int x, .int lo, .int hi] n sh I R L P := by
  refine x_iload_n (pc := 0) dX9_isWithin_0 rfl rfl ?_
  refine x_iload_n (pc := 1) dX9_isWithin_1 rfl rfl ?_
  refine x_icmp_lt (pc := 2) (tgt := 14) dX9_isWithin_2 (by decide) (fun c2 => ?_) (fun c2 => ?_)
  · skip
    refine x_iconst (pc := 14) (v := 0) dX9_isWithin_14 (by decide) ?_
    refine x_ireturn (pc := 15) dX9_isWithin_15 ⟨_, rfl, by decide⟩ ⟨Nat.le_refl _, Nat.le_refl _⟩ ?_
    exact K2 (by first | exact Or.inl c2 | exact Or.inr c7)
  · skip
    refine x_iload_n (pc := 5) dX9_isWithin_5 rfl rfl ?_
    refine x_iload_n (pc := 6) dX9_isWithin_6 rfl rfl ?_
    refine x_icmp_gt (pc := 7) (tgt := 14) dX9_isWithin_7 (by decide) (fun c7 => ?_) (fun c7 => ?_)
    · skip
      refine x_iconst (pc := 14) (v := 0) dX9_isWithin_14 (by decide) ?_
      refine x_ireturn (pc := 15) dX9_isWithin_15 ⟨_, rfl, by decide⟩ ⟨Nat.le_refl _, Nat.le_refl _⟩ ?_
      exact K2 (by first | exact Or.inl c2 | exact Or.inr c7)
    · skip
      refine x_iconst (pc := 10) (v := 1) dX9_isWithin_10 (by decide) ?_
      refine x_goto (pc := 11) (tgt := 15) dX9_isWithin_11 (by decide) ?_
      refine x_ireturn (pc := 15) dX9_isWithin_15 ⟨_, rfl, by decide⟩ ⟨Nat.le_refl _, Nat.le_refl _⟩ ?_
      exact K1 c2 c7

theorem c_isCell_k {x : Int32} (h1 : ¬ x < 0) (h2 : ¬ 35 < x) : ∃ k : Nat, k < 36 ∧ x = nI k := by
  obtain ⟨j, hj, rfl⟩ := nI_of h1
  refine ⟨j, ?_, rfl⟩
  rcases Nat.lt_or_ge j 36 with h | h
  · exact h
  · exact absurd ((nI_ltI (a := 35) (by decide) hj).mpr (by omega)) h2
set_option maxHeartbeats 4000000 in
set_option maxRecDepth 100000 in
theorem c_isCell {T : xT} {n : Nat} {sh : Nat → Nat × Nat} {I : xI} {R : xR} {L : xL} {P : xPost} {x : Int32} (K1 : ∀ k : Nat, k < 36 → x = nI k → P (n, sh, 0, 0) I R L (some (.int 1))) (K2 : (x < 0 ∨ 35 < x) → P (n, sh, 0, 0) I R L (some (.int 0))) : XM T zX9_isCell 1 [.int x] n sh I R L P := by
  refine x_iload_n (pc := 0) dX9_isCell_0 rfl rfl ?_
  refine x_iconst (pc := 1) (v := 0) dX9_isCell_1 (by decide) ?_
  refine x_bipush (pc := 2) (v := 35) dX9_isCell_2 (by decide) ?_
  refine x_callS (pc := 4) (As := [.int _, .int _, .int _]) dX9_isCell_4 km_X9_isWithin ks_X9_isWithin kl_RX9_81 rfl (by decide) ⟨Nat.le_refl _, Nat.le_refl _⟩ rfl (Nat.le_of_ble_eq_true rfl) (Nat.le_of_ble_eq_true rfl) (c_isWithin (fun h1 h2 => ⟨rfl, rfl, ?_⟩) (fun h1 => ⟨rfl, rfl, ?_⟩))
  · skip
    refine x_ireturn (pc := 7) dX9_isCell_7 ⟨_, rfl, by decide⟩ ⟨Nat.le_refl _, Nat.le_refl _⟩ ?_
    exact (c_isCell_k h1 h2).elim (fun k h => K1 k h.1 h.2)
  · skip
    refine x_ireturn (pc := 7) dX9_isCell_7 ⟨_, rfl, by decide⟩ ⟨Nat.le_refl _, Nat.le_refl _⟩ ?_
    exact K2 h1

theorem c_isKind_k {x : Int32} (h1 : ¬ x < 0) (h2 : ¬ 6 < x) : ∃ k : Nat, k < 7 ∧ x = nI k := by
  obtain ⟨j, hj, rfl⟩ := nI_of h1
  refine ⟨j, ?_, rfl⟩
  rcases Nat.lt_or_ge j 7 with h | h
  · exact h
  · exact absurd ((nI_ltI (a := 6) (by decide) hj).mpr (by omega)) h2
set_option maxHeartbeats 4000000 in
set_option maxRecDepth 100000 in
theorem c_isKind {T : xT} {n : Nat} {sh : Nat → Nat × Nat} {I : xI} {R : xR} {L : xL} {P : xPost} {x : Int32} (K1 : ∀ k : Nat, k < 7 → x = nI k → P (n, sh, 0, 0) I R L (some (.int 1))) (K2 : (x < 0 ∨ 6 < x) → P (n, sh, 0, 0) I R L (some (.int 0))) : XM T zX9_isKind 1 [.int x] n sh I R L P := by
  refine x_iload_n (pc := 0) dX9_isKind_0 rfl rfl ?_
  refine x_iconst (pc := 1) (v := 0) dX9_isKind_1 (by decide) ?_
  refine x_bipush (pc := 2) (v := 6) dX9_isKind_2 (by decide) ?_
  refine x_callS (pc := 4) (As := [.int _, .int _, .int _]) dX9_isKind_4 km_X9_isWithin ks_X9_isWithin kl_RX9_81 rfl (by decide) ⟨Nat.le_refl _, Nat.le_refl _⟩ rfl (Nat.le_of_ble_eq_true rfl) (Nat.le_of_ble_eq_true rfl) (c_isWithin (fun h1 h2 => ⟨rfl, rfl, ?_⟩) (fun h1 => ⟨rfl, rfl, ?_⟩))
  · skip
    refine x_ireturn (pc := 7) dX9_isKind_7 ⟨_, rfl, by decide⟩ ⟨Nat.le_refl _, Nat.le_refl _⟩ ?_
    exact (c_isKind_k h1 h2).elim (fun k h => K1 k h.1 h.2)
  · skip
    refine x_ireturn (pc := 7) dX9_isKind_7 ⟨_, rfl, by decide⟩ ⟨Nat.le_refl _, Nat.le_refl _⟩ ?_
    exact K2 h1

set_option maxHeartbeats 4000000 in
set_option maxRecDepth 100000 in
theorem c_roundOf {T : xT} {n : Nat} {sh : Nat → Nat × Nat} {I : xI} {R : xR} {L : xL} {P : xPost} {a b : Nat} (ha : a < 36) (hb : b < 36) (K : P (n, sh, 0, 0) I R L (some (.int (nI (rnd a b))))) : XM T zX9_roundOf 1 [.int (nI a), .int (nI b)] n sh I R L P := by
  refine x_iload_n (pc := 0) dX9_roundOf_0 rfl rfl ?_
  refine x_bipush (pc := 1) (v := 6) dX9_roundOf_1 (by decide) ?_
  refine x_idivn (pc := 3) (a := a) (b := 6) dX9_roundOf_3 (by omega) (by decide) (by decide) ?_
  refine x_iload_n (pc := 4) dX9_roundOf_4 rfl rfl ?_
  refine x_bipush (pc := 5) (v := 6) dX9_roundOf_5 (by decide) ?_
  refine x_idivn (pc := 7) (a := b) (b := 6) dX9_roundOf_7 (by omega) (by decide) (by decide) ?_
  refine x_isub (pc := 8) dX9_roundOf_8 ?_
  refine x_abs (pc := 9) (by decide) ⟨Nat.le_refl _, Nat.le_refl _⟩ kw_abs kl_RX9_348 dX9_roundOf_9 (Nat.le_of_ble_eq_true rfl) ?_
  rw [xabs_sub (by omega) (by omega)]
  refine x_iload_n (pc := 12) dX9_roundOf_12 rfl rfl ?_
  refine x_bipush (pc := 13) (v := 6) dX9_roundOf_13 (by decide) ?_
  refine x_iremn (pc := 15) (a := a) (b := 6) dX9_roundOf_15 (by omega) (by decide) (by decide) ?_
  refine x_iload_n (pc := 16) dX9_roundOf_16 rfl rfl ?_
  refine x_bipush (pc := 17) (v := 6) dX9_roundOf_17 (by decide) ?_
  refine x_iremn (pc := 19) (a := b) (b := 6) dX9_roundOf_19 (by omega) (by decide) (by decide) ?_
  refine x_isub (pc := 20) dX9_roundOf_20 ?_
  refine x_abs (pc := 21) (by decide) ⟨Nat.le_refl _, Nat.le_refl _⟩ kw_abs kl_RX9_348 dX9_roundOf_21 (Nat.le_of_ble_eq_true rfl) ?_
  rw [xabs_sub (by omega) (by omega)]
  refine x_iaddn (pc := 24) (a := (ap (a / 6) (b / 6))) (b := (ap (a % 6) (b % 6))) dX9_roundOf_24 ?_
  refine x_ireturn (pc := 25) dX9_roundOf_25 ⟨_, rfl, rfl⟩ ⟨Nat.le_refl _, Nat.le_refl _⟩ ?_
  exact K

set_option maxHeartbeats 4000000 in
set_option maxRecDepth 100000 in
theorem c_farOf {T : xT} {n : Nat} {sh : Nat → Nat × Nat} {I : xI} {R : xR} {L : xL} {P : xPost} {a b : Nat} (ha : a < 36) (hb : b < 36) (K : P (n, sh, 0, 0) I R L (some (.int (nI (far a b))))) : XM T zX9_farOf 1 [.int (nI a), .int (nI b)] n sh I R L P := by
  refine x_iload_n (pc := 0) dX9_farOf_0 rfl rfl ?_
  refine x_bipush (pc := 1) (v := 6) dX9_farOf_1 (by decide) ?_
  refine x_idivn (pc := 3) (a := a) (b := 6) dX9_farOf_3 (by omega) (by decide) (by decide) ?_
  refine x_iload_n (pc := 4) dX9_farOf_4 rfl rfl ?_
  refine x_bipush (pc := 5) (v := 6) dX9_farOf_5 (by decide) ?_
  refine x_idivn (pc := 7) (a := b) (b := 6) dX9_farOf_7 (by omega) (by decide) (by decide) ?_
  refine x_isub (pc := 8) dX9_farOf_8 ?_
  refine x_abs (pc := 9) (by decide) ⟨Nat.le_refl _, Nat.le_refl _⟩ kw_abs kl_RX9_348 dX9_farOf_9 (Nat.le_of_ble_eq_true rfl) ?_
  rw [xabs_sub (by omega) (by omega)]
  refine x_iload_n (pc := 12) dX9_farOf_12 rfl rfl ?_
  refine x_bipush (pc := 13) (v := 6) dX9_farOf_13 (by decide) ?_
  refine x_iremn (pc := 15) (a := a) (b := 6) dX9_farOf_15 (by omega) (by decide) (by decide) ?_
  refine x_iload_n (pc := 16) dX9_farOf_16 rfl rfl ?_
  refine x_bipush (pc := 17) (v := 6) dX9_farOf_17 (by decide) ?_
  refine x_iremn (pc := 19) (a := b) (b := 6) dX9_farOf_19 (by omega) (by decide) (by decide) ?_
  refine x_isub (pc := 20) dX9_farOf_20 ?_
  refine x_abs (pc := 21) (by decide) ⟨Nat.le_refl _, Nat.le_refl _⟩ kw_abs kl_RX9_348 dX9_farOf_21 (Nat.le_of_ble_eq_true rfl) ?_
  rw [xabs_sub (by omega) (by omega)]
  refine x_max (pc := 24) (by decide) ⟨Nat.le_refl _, Nat.le_refl _⟩ kw_max kl_RX9_353 dX9_farOf_24 (Nat.le_of_ble_eq_true rfl) ?_
  rw [xmax_n (Nat.lt_trans (ap_lt (m := 6) (by omega) (by omega)) (by decide)) (Nat.lt_trans (ap_lt (m := 6) (by omega) (by omega)) (by decide))]
  refine x_ireturn (pc := 27) dX9_farOf_27 ⟨_, rfl, rfl⟩ ⟨Nat.le_refl _, Nat.le_refl _⟩ ?_
  exact K

set_option maxHeartbeats 4000000 in
set_option maxRecDepth 100000 in
theorem c_nextTo {T : xT} {n : Nat} {sh : Nat → Nat × Nat} {I : xI} {R : xR} {L : xL} {P : xPost} {c s : Nat} (hc : c < 36) (hs : s < 4) (K1 : ∀ z, nxt c s = some z → P (n, sh, 0, 0) I R L (some (.int (nI z)))) (K2 : nxt c s = none → P (n, sh, 0, 0) I R L (some (.int (-1)))) : XM T zX9_nextTo 0 [.int (nI c), .int (nI s)] n sh I R L P := by
  match s, hs with
  | 0, _ =>
    rw [show nI 0 = 0 from rfl]
    refine x_iload_n (pc := 0) dX9_nextTo_0 rfl rfl ?_
    refine x_tsw (pc := 1) (dt := 74) [(0, 28), (1, 43), (2, 58)] dX9_nextTo_1 (by decide +kernel) (by decide) ?_
    refine xsw_c (fun _ => ?_) (fun h => absurd rfl h)
    refine x_iload_n (pc := 28) dX9_nextTo_28 rfl rfl ?_
    refine x_bipush (pc := 29) (v := 6) dX9_nextTo_29 (by decide) ?_
    refine x_icmpn_lt (pc := 31) (tgt := 41) (a := c) (b := 6) dX9_nextTo_31 (by decide) (by omega) (by decide) (fun c31 => ?_) (fun c31 => ?_)
    · skip
      refine x_iconst (pc := 41) (v := -1) dX9_nextTo_41 (by decide) ?_
      refine x_ireturn (pc := 42) dX9_nextTo_42 ⟨_, rfl, rfl⟩ ⟨Nat.le_refl _, Nat.le_refl _⟩ ?_
      exact K2 (by simp [nxt] <;> omega)
    · skip
      refine x_iload_n (pc := 34) dX9_nextTo_34 rfl rfl ?_
      refine x_bipush (pc := 35) (v := 6) dX9_nextTo_35 (by decide) ?_
      refine x_isubn (pc := 37) (a := c) (b := 6) dX9_nextTo_37 (by omega) ?_
      refine x_goto (pc := 38) (tgt := 42) dX9_nextTo_38 (by decide) ?_
      refine x_ireturn (pc := 42) dX9_nextTo_42 ⟨_, rfl, rfl⟩ ⟨Nat.le_refl _, Nat.le_refl _⟩ ?_
      exact K1 _ (by simp [nxt] <;> omega)
  | 1, _ =>
    rw [show nI 1 = 1 from rfl]
    refine x_iload_n (pc := 0) dX9_nextTo_0 rfl rfl ?_
    refine x_tsw (pc := 1) (dt := 74) [(0, 28), (1, 43), (2, 58)] dX9_nextTo_1 (by decide +kernel) (by decide) ?_
    refine xsw_c (fun h => absurd h (by decide)) (fun _ => ?_)
    refine xsw_c (fun _ => ?_) (fun h => absurd rfl h)
    refine x_iload_n (pc := 43) dX9_nextTo_43 rfl rfl ?_
    refine x_bipush (pc := 44) (v := 6) dX9_nextTo_44 (by decide) ?_
    refine x_iremn (pc := 46) (a := c) (b := 6) dX9_nextTo_46 (by omega) (by decide) (by decide) ?_
    refine x_ifn_le (pc := 47) (tgt := 56) (a := (c % 6)) dX9_nextTo_47 (by decide) (by omega) (fun c47 => ?_) (fun c47 => ?_)
    · skip
      refine x_iconst (pc := 56) (v := -1) dX9_nextTo_56 (by decide) ?_
      refine x_ireturn (pc := 57) dX9_nextTo_57 ⟨_, rfl, rfl⟩ ⟨Nat.le_refl _, Nat.le_refl _⟩ ?_
      exact K2 (by simp [nxt] <;> omega)
    · skip
      refine x_iload_n (pc := 50) dX9_nextTo_50 rfl rfl ?_
      refine x_iconst (pc := 51) (v := 1) dX9_nextTo_51 (by decide) ?_
      refine x_isubn (pc := 52) (a := c) (b := 1) dX9_nextTo_52 (by omega) ?_
      refine x_goto (pc := 53) (tgt := 57) dX9_nextTo_53 (by decide) ?_
      refine x_ireturn (pc := 57) dX9_nextTo_57 ⟨_, rfl, rfl⟩ ⟨Nat.le_refl _, Nat.le_refl _⟩ ?_
      exact K1 _ (by simp [nxt] <;> omega)
  | 2, _ =>
    rw [show nI 2 = 2 from rfl]
    refine x_iload_n (pc := 0) dX9_nextTo_0 rfl rfl ?_
    refine x_tsw (pc := 1) (dt := 74) [(0, 28), (1, 43), (2, 58)] dX9_nextTo_1 (by decide +kernel) (by decide) ?_
    refine xsw_c (fun h => absurd h (by decide)) (fun _ => ?_)
    refine xsw_c (fun h => absurd h (by decide)) (fun _ => ?_)
    refine xsw_c (fun _ => ?_) (fun h => absurd rfl h)
    refine x_iload_n (pc := 58) dX9_nextTo_58 rfl rfl ?_
    refine x_bipush (pc := 59) (v := 6) dX9_nextTo_59 (by decide) ?_
    refine x_iremn (pc := 61) (a := c) (b := 6) dX9_nextTo_61 (by omega) (by decide) (by decide) ?_
    refine x_iconst (pc := 62) (v := 5) dX9_nextTo_62 (by decide) ?_
    refine x_icmpn_ge (pc := 63) (tgt := 72) (a := (c % 6)) (b := 5) dX9_nextTo_63 (by decide) (by omega) (by decide) (fun c63 => ?_) (fun c63 => ?_)
    · skip
      refine x_iconst (pc := 72) (v := -1) dX9_nextTo_72 (by decide) ?_
      refine x_ireturn (pc := 73) dX9_nextTo_73 ⟨_, rfl, rfl⟩ ⟨Nat.le_refl _, Nat.le_refl _⟩ ?_
      exact K2 (by simp [nxt] <;> omega)
    · skip
      refine x_iload_n (pc := 66) dX9_nextTo_66 rfl rfl ?_
      refine x_iconst (pc := 67) (v := 1) dX9_nextTo_67 (by decide) ?_
      refine x_iaddn (pc := 68) (a := c) (b := 1) dX9_nextTo_68 ?_
      refine x_goto (pc := 69) (tgt := 73) dX9_nextTo_69 (by decide) ?_
      refine x_ireturn (pc := 73) dX9_nextTo_73 ⟨_, rfl, rfl⟩ ⟨Nat.le_refl _, Nat.le_refl _⟩ ?_
      exact K1 _ (by simp [nxt] <;> omega)
  | 3, _ =>
    rw [show nI 3 = 3 from rfl]
    refine x_iload_n (pc := 0) dX9_nextTo_0 rfl rfl ?_
    refine x_tsw (pc := 1) (dt := 74) [(0, 28), (1, 43), (2, 58)] dX9_nextTo_1 (by decide +kernel) (by decide) ?_
    refine xsw_c (fun h => absurd h (by decide)) (fun _ => ?_)
    refine xsw_c (fun h => absurd h (by decide)) (fun _ => ?_)
    refine xsw_c (fun h => absurd h (by decide)) (fun _ => ?_)
    refine xsw_n ?_
    refine x_iload_n (pc := 74) dX9_nextTo_74 rfl rfl ?_
    refine x_bipush (pc := 75) (v := 30) dX9_nextTo_75 (by decide) ?_
    refine x_icmpn_ge (pc := 77) (tgt := 87) (a := c) (b := 30) dX9_nextTo_77 (by decide) (by omega) (by decide) (fun c77 => ?_) (fun c77 => ?_)
    · skip
      refine x_iconst (pc := 87) (v := -1) dX9_nextTo_87 (by decide) ?_
      refine x_ireturn (pc := 88) dX9_nextTo_88 ⟨_, rfl, rfl⟩ ⟨Nat.le_refl _, Nat.le_refl _⟩ ?_
      exact K2 (by simp [nxt] <;> omega)
    · skip
      refine x_iload_n (pc := 80) dX9_nextTo_80 rfl rfl ?_
      refine x_bipush (pc := 81) (v := 6) dX9_nextTo_81 (by decide) ?_
      refine x_iaddn (pc := 83) (a := c) (b := 6) dX9_nextTo_83 ?_
      refine x_goto (pc := 84) (tgt := 88) dX9_nextTo_84 (by decide) ?_
      refine x_ireturn (pc := 88) dX9_nextTo_88 ⟨_, rfl, rfl⟩ ⟨Nat.le_refl _, Nat.le_refl _⟩ ?_
      exact K1 _ (by simp [nxt] <;> omega)

set_option maxHeartbeats 4000000 in
set_option maxRecDepth 100000 in
theorem c_kindAbove {T : xT} {n : Nat} {sh : Nat → Nat × Nat} {I : xI} {R : xR} {L : xL} {P : xPost} {k : Nat} (hk : k < 7) (K : P (n, sh, 0, 0) I R L (some (.int (kAbI k)))) : XM T zX9_kindAbove 0 [.int (nI k)] n sh I R L P := by
  match k, hk with
  | 0, _ =>
    rw [show nI 0 = 0 from rfl]
    refine x_iload_n (pc := 0) dX9_kindAbove_0 rfl rfl ?_
    refine x_tsw (pc := 1) (dt := 46) [(1, 40), (2, 40), (3, 40), (4, 42), (5, 42), (6, 44)] dX9_kindAbove_1 (by decide +kernel) (by decide) ?_
    refine xsw_c (fun h => absurd h (by decide)) (fun _ => ?_)
    refine xsw_c (fun h => absurd h (by decide)) (fun _ => ?_)
    refine xsw_c (fun h => absurd h (by decide)) (fun _ => ?_)
    refine xsw_c (fun h => absurd h (by decide)) (fun _ => ?_)
    refine xsw_c (fun h => absurd h (by decide)) (fun _ => ?_)
    refine xsw_c (fun h => absurd h (by decide)) (fun _ => ?_)
    refine xsw_n ?_
    refine x_iconst (pc := 46) (v := -1) dX9_kindAbove_46 (by decide) ?_
    refine x_ireturn (pc := 47) dX9_kindAbove_47 ⟨_, rfl, rfl⟩ ⟨Nat.le_refl _, Nat.le_refl _⟩ ?_
    exact K
  | 1, _ =>
    rw [show nI 1 = 1 from rfl]
    refine x_iload_n (pc := 0) dX9_kindAbove_0 rfl rfl ?_
    refine x_tsw (pc := 1) (dt := 46) [(1, 40), (2, 40), (3, 40), (4, 42), (5, 42), (6, 44)] dX9_kindAbove_1 (by decide +kernel) (by decide) ?_
    refine xsw_c (fun _ => ?_) (fun h => absurd rfl h)
    refine x_iconst (pc := 40) (v := 0) dX9_kindAbove_40 (by decide) ?_
    refine x_ireturn (pc := 41) dX9_kindAbove_41 ⟨_, rfl, rfl⟩ ⟨Nat.le_refl _, Nat.le_refl _⟩ ?_
    exact K
  | 2, _ =>
    rw [show nI 2 = 2 from rfl]
    refine x_iload_n (pc := 0) dX9_kindAbove_0 rfl rfl ?_
    refine x_tsw (pc := 1) (dt := 46) [(1, 40), (2, 40), (3, 40), (4, 42), (5, 42), (6, 44)] dX9_kindAbove_1 (by decide +kernel) (by decide) ?_
    refine xsw_c (fun h => absurd h (by decide)) (fun _ => ?_)
    refine xsw_c (fun _ => ?_) (fun h => absurd rfl h)
    refine x_iconst (pc := 40) (v := 0) dX9_kindAbove_40 (by decide) ?_
    refine x_ireturn (pc := 41) dX9_kindAbove_41 ⟨_, rfl, rfl⟩ ⟨Nat.le_refl _, Nat.le_refl _⟩ ?_
    exact K
  | 3, _ =>
    rw [show nI 3 = 3 from rfl]
    refine x_iload_n (pc := 0) dX9_kindAbove_0 rfl rfl ?_
    refine x_tsw (pc := 1) (dt := 46) [(1, 40), (2, 40), (3, 40), (4, 42), (5, 42), (6, 44)] dX9_kindAbove_1 (by decide +kernel) (by decide) ?_
    refine xsw_c (fun h => absurd h (by decide)) (fun _ => ?_)
    refine xsw_c (fun h => absurd h (by decide)) (fun _ => ?_)
    refine xsw_c (fun _ => ?_) (fun h => absurd rfl h)
    refine x_iconst (pc := 40) (v := 0) dX9_kindAbove_40 (by decide) ?_
    refine x_ireturn (pc := 41) dX9_kindAbove_41 ⟨_, rfl, rfl⟩ ⟨Nat.le_refl _, Nat.le_refl _⟩ ?_
    exact K
  | 4, _ =>
    rw [show nI 4 = 4 from rfl]
    refine x_iload_n (pc := 0) dX9_kindAbove_0 rfl rfl ?_
    refine x_tsw (pc := 1) (dt := 46) [(1, 40), (2, 40), (3, 40), (4, 42), (5, 42), (6, 44)] dX9_kindAbove_1 (by decide +kernel) (by decide) ?_
    refine xsw_c (fun h => absurd h (by decide)) (fun _ => ?_)
    refine xsw_c (fun h => absurd h (by decide)) (fun _ => ?_)
    refine xsw_c (fun h => absurd h (by decide)) (fun _ => ?_)
    refine xsw_c (fun _ => ?_) (fun h => absurd rfl h)
    refine x_iconst (pc := 42) (v := 1) dX9_kindAbove_42 (by decide) ?_
    refine x_ireturn (pc := 43) dX9_kindAbove_43 ⟨_, rfl, rfl⟩ ⟨Nat.le_refl _, Nat.le_refl _⟩ ?_
    exact K
  | 5, _ =>
    rw [show nI 5 = 5 from rfl]
    refine x_iload_n (pc := 0) dX9_kindAbove_0 rfl rfl ?_
    refine x_tsw (pc := 1) (dt := 46) [(1, 40), (2, 40), (3, 40), (4, 42), (5, 42), (6, 44)] dX9_kindAbove_1 (by decide +kernel) (by decide) ?_
    refine xsw_c (fun h => absurd h (by decide)) (fun _ => ?_)
    refine xsw_c (fun h => absurd h (by decide)) (fun _ => ?_)
    refine xsw_c (fun h => absurd h (by decide)) (fun _ => ?_)
    refine xsw_c (fun h => absurd h (by decide)) (fun _ => ?_)
    refine xsw_c (fun _ => ?_) (fun h => absurd rfl h)
    refine x_iconst (pc := 42) (v := 1) dX9_kindAbove_42 (by decide) ?_
    refine x_ireturn (pc := 43) dX9_kindAbove_43 ⟨_, rfl, rfl⟩ ⟨Nat.le_refl _, Nat.le_refl _⟩ ?_
    exact K
  | 6, _ =>
    rw [show nI 6 = 6 from rfl]
    refine x_iload_n (pc := 0) dX9_kindAbove_0 rfl rfl ?_
    refine x_tsw (pc := 1) (dt := 46) [(1, 40), (2, 40), (3, 40), (4, 42), (5, 42), (6, 44)] dX9_kindAbove_1 (by decide +kernel) (by decide) ?_
    refine xsw_c (fun h => absurd h (by decide)) (fun _ => ?_)
    refine xsw_c (fun h => absurd h (by decide)) (fun _ => ?_)
    refine xsw_c (fun h => absurd h (by decide)) (fun _ => ?_)
    refine xsw_c (fun h => absurd h (by decide)) (fun _ => ?_)
    refine xsw_c (fun h => absurd h (by decide)) (fun _ => ?_)
    refine xsw_c (fun _ => ?_) (fun h => absurd rfl h)
    refine x_iconst (pc := 44) (v := 2) dX9_kindAbove_44 (by decide) ?_
    refine x_ireturn (pc := 45) dX9_kindAbove_45 ⟨_, rfl, rfl⟩ ⟨Nat.le_refl _, Nat.le_refl _⟩ ?_
    exact K

set_option maxHeartbeats 4000000 in
set_option maxRecDepth 100000 in
theorem c_isOneOf {T : xT} {n : Nat} {sh : Nat → Nat × Nat} {I : xI} {R : xR} {L : xL} {P : xPost} {k o : Nat} (hk : k < 7) (ho : o < 7) (K1 : isOne k o = true → P (n, sh, 0, 0) I R L (some (.int 1))) (K2 : isOne k o = false → P (n, sh, 0, 0) I R L (some (.int 0))) : XM T zX9_isOneOf 1 [.int (nI k), .int (nI o)] n sh I R L P := by
  match k, hk with
  | 0, _ =>
    rw [show nI 0 = 0 from rfl]
    refine x_iload_n (pc := 0) dX9_isOneOf_0 rfl rfl ?_
    refine x_istore_n (pc := 1) (lv' := [(0, .int 0), (1, .int (nI o)), (2, .int 0)]) dX9_isOneOf_1 rfl (by decide) rfl ?_
    refine x_iconst (pc := 2) (v := 0) dX9_isOneOf_2 (by decide) ?_
    refine x_istore_n (pc := 3) (lv' := [(0, .int 0), (1, .int (nI o)), (2, .int 0), (3, .int 0)]) dX9_isOneOf_3 rfl (by decide) rfl ?_
    refine x_iload_n (pc := 4) dX9_isOneOf_4 rfl rfl ?_
    refine x_bipush (pc := 5) (v := 7) dX9_isOneOf_5 (by decide) ?_
    refine x_icmp_ge_f (pc := 7) (tgt := 33) dX9_isOneOf_7 (by decide) (by decide) ?_
    refine x_iload_n (pc := 10) dX9_isOneOf_10 rfl rfl ?_
    refine x_iconst (pc := 11) (v := -1) dX9_isOneOf_11 (by decide) ?_
    refine x_icmp_eq_f (pc := 12) (tgt := 33) dX9_isOneOf_12 (by decide) (by decide) ?_
    refine x_iload_n (pc := 15) dX9_isOneOf_15 rfl rfl ?_
    refine x_iload_n (pc := 16) dX9_isOneOf_16 rfl rfl ?_
    refine x_icmpn_ne (pc := 17) (tgt := 22) (a := 0) (b := o) dX9_isOneOf_17 (by decide) (by decide) (by omega) (fun c17 => ?_) (fun c17 => ?_)
    · skip
      refine x_iload_n (pc := 22) dX9_isOneOf_22 rfl rfl ?_
      refine x_callS (pc := 23) (As := [.int _]) dX9_isOneOf_23 km_X9_kindAbove ks_X9_kindAbove kl_RX9_363 rfl (by decide) ⟨Nat.le_refl _, Nat.le_refl _⟩ rfl (Nat.le_of_ble_eq_true rfl) (Nat.le_of_ble_eq_true rfl) (c_kindAbove (k := 0) (by decide) (⟨rfl, rfl, ?_⟩))
      rw [show kAbI 0 = -1 from rfl]
      refine x_istore_n (pc := 26) (lv' := [(0, .int 0), (1, .int (nI o)), (2, .int (-1)), (3, .int 0)]) dX9_isOneOf_26 rfl (by decide) rfl ?_
      refine x_iinc (pc := 27) (v := 1) (lv' := [(0, .int 0), (1, .int (nI o)), (2, .int (-1)), (3, .int 1)]) dX9_isOneOf_27 rfl (by decide) (by decide) rfl ?_
      refine x_goto (pc := 30) (tgt := 4) dX9_isOneOf_30 (by decide) ?_
      refine x_iload_n (pc := 4) dX9_isOneOf_4 rfl rfl ?_
      refine x_bipush (pc := 5) (v := 7) dX9_isOneOf_5 (by decide) ?_
      refine x_icmp_ge_f (pc := 7) (tgt := 33) dX9_isOneOf_7 (by decide) (by decide) ?_
      refine x_iload_n (pc := 10) dX9_isOneOf_10 rfl rfl ?_
      refine x_iconst (pc := 11) (v := -1) dX9_isOneOf_11 (by decide) ?_
      refine x_icmp_eq_t (pc := 12) (tgt := 33) dX9_isOneOf_12 (by decide) (by decide) ?_
      refine x_iconst (pc := 33) (v := 0) dX9_isOneOf_33 (by decide) ?_
      refine x_ireturn (pc := 34) dX9_isOneOf_34 ⟨_, rfl, by decide⟩ ⟨Nat.le_refl _, Nat.le_refl _⟩ ?_
      exact K2 (by simp [isOne, kAb] <;> omega)
    · skip
      refine x_iconst (pc := 20) (v := 1) dX9_isOneOf_20 (by decide) ?_
      refine x_ireturn (pc := 21) dX9_isOneOf_21 ⟨_, rfl, by decide⟩ ⟨Nat.le_refl _, Nat.le_refl _⟩ ?_
      exact K1 (by simp [isOne, kAb] <;> omega)
  | 1, _ =>
    rw [show nI 1 = 1 from rfl]
    refine x_iload_n (pc := 0) dX9_isOneOf_0 rfl rfl ?_
    refine x_istore_n (pc := 1) (lv' := [(0, .int 1), (1, .int (nI o)), (2, .int 1)]) dX9_isOneOf_1 rfl (by decide) rfl ?_
    refine x_iconst (pc := 2) (v := 0) dX9_isOneOf_2 (by decide) ?_
    refine x_istore_n (pc := 3) (lv' := [(0, .int 1), (1, .int (nI o)), (2, .int 1), (3, .int 0)]) dX9_isOneOf_3 rfl (by decide) rfl ?_
    refine x_iload_n (pc := 4) dX9_isOneOf_4 rfl rfl ?_
    refine x_bipush (pc := 5) (v := 7) dX9_isOneOf_5 (by decide) ?_
    refine x_icmp_ge_f (pc := 7) (tgt := 33) dX9_isOneOf_7 (by decide) (by decide) ?_
    refine x_iload_n (pc := 10) dX9_isOneOf_10 rfl rfl ?_
    refine x_iconst (pc := 11) (v := -1) dX9_isOneOf_11 (by decide) ?_
    refine x_icmp_eq_f (pc := 12) (tgt := 33) dX9_isOneOf_12 (by decide) (by decide) ?_
    refine x_iload_n (pc := 15) dX9_isOneOf_15 rfl rfl ?_
    refine x_iload_n (pc := 16) dX9_isOneOf_16 rfl rfl ?_
    refine x_icmpn_ne (pc := 17) (tgt := 22) (a := 1) (b := o) dX9_isOneOf_17 (by decide) (by decide) (by omega) (fun c17 => ?_) (fun c17 => ?_)
    · skip
      refine x_iload_n (pc := 22) dX9_isOneOf_22 rfl rfl ?_
      refine x_callS (pc := 23) (As := [.int _]) dX9_isOneOf_23 km_X9_kindAbove ks_X9_kindAbove kl_RX9_363 rfl (by decide) ⟨Nat.le_refl _, Nat.le_refl _⟩ rfl (Nat.le_of_ble_eq_true rfl) (Nat.le_of_ble_eq_true rfl) (c_kindAbove (k := 1) (by decide) (⟨rfl, rfl, ?_⟩))
      rw [show kAbI 1 = 0 from rfl]
      refine x_istore_n (pc := 26) (lv' := [(0, .int 1), (1, .int (nI o)), (2, .int 0), (3, .int 0)]) dX9_isOneOf_26 rfl (by decide) rfl ?_
      refine x_iinc (pc := 27) (v := 1) (lv' := [(0, .int 1), (1, .int (nI o)), (2, .int 0), (3, .int 1)]) dX9_isOneOf_27 rfl (by decide) (by decide) rfl ?_
      refine x_goto (pc := 30) (tgt := 4) dX9_isOneOf_30 (by decide) ?_
      refine x_iload_n (pc := 4) dX9_isOneOf_4 rfl rfl ?_
      refine x_bipush (pc := 5) (v := 7) dX9_isOneOf_5 (by decide) ?_
      refine x_icmp_ge_f (pc := 7) (tgt := 33) dX9_isOneOf_7 (by decide) (by decide) ?_
      refine x_iload_n (pc := 10) dX9_isOneOf_10 rfl rfl ?_
      refine x_iconst (pc := 11) (v := -1) dX9_isOneOf_11 (by decide) ?_
      refine x_icmp_eq_f (pc := 12) (tgt := 33) dX9_isOneOf_12 (by decide) (by decide) ?_
      refine x_iload_n (pc := 15) dX9_isOneOf_15 rfl rfl ?_
      refine x_iload_n (pc := 16) dX9_isOneOf_16 rfl rfl ?_
      refine x_icmpn_ne (pc := 17) (tgt := 22) (a := 0) (b := o) dX9_isOneOf_17 (by decide) (by decide) (by omega) (fun c17 => ?_) (fun c17 => ?_)
      · skip
        refine x_iload_n (pc := 22) dX9_isOneOf_22 rfl rfl ?_
        refine x_callS (pc := 23) (As := [.int _]) dX9_isOneOf_23 km_X9_kindAbove ks_X9_kindAbove kl_RX9_363 rfl (by decide) ⟨Nat.le_refl _, Nat.le_refl _⟩ rfl (Nat.le_of_ble_eq_true rfl) (Nat.le_of_ble_eq_true rfl) (c_kindAbove (k := 0) (by decide) (⟨rfl, rfl, ?_⟩))
        rw [show kAbI 0 = -1 from rfl]
        refine x_istore_n (pc := 26) (lv' := [(0, .int 1), (1, .int (nI o)), (2, .int (-1)), (3, .int 1)]) dX9_isOneOf_26 rfl (by decide) rfl ?_
        refine x_iinc (pc := 27) (v := 2) (lv' := [(0, .int 1), (1, .int (nI o)), (2, .int (-1)), (3, .int 2)]) dX9_isOneOf_27 rfl (by decide) (by decide) rfl ?_
        refine x_goto (pc := 30) (tgt := 4) dX9_isOneOf_30 (by decide) ?_
        refine x_iload_n (pc := 4) dX9_isOneOf_4 rfl rfl ?_
        refine x_bipush (pc := 5) (v := 7) dX9_isOneOf_5 (by decide) ?_
        refine x_icmp_ge_f (pc := 7) (tgt := 33) dX9_isOneOf_7 (by decide) (by decide) ?_
        refine x_iload_n (pc := 10) dX9_isOneOf_10 rfl rfl ?_
        refine x_iconst (pc := 11) (v := -1) dX9_isOneOf_11 (by decide) ?_
        refine x_icmp_eq_t (pc := 12) (tgt := 33) dX9_isOneOf_12 (by decide) (by decide) ?_
        refine x_iconst (pc := 33) (v := 0) dX9_isOneOf_33 (by decide) ?_
        refine x_ireturn (pc := 34) dX9_isOneOf_34 ⟨_, rfl, by decide⟩ ⟨Nat.le_refl _, Nat.le_refl _⟩ ?_
        exact K2 (by simp [isOne, kAb] <;> omega)
      · skip
        refine x_iconst (pc := 20) (v := 1) dX9_isOneOf_20 (by decide) ?_
        refine x_ireturn (pc := 21) dX9_isOneOf_21 ⟨_, rfl, by decide⟩ ⟨Nat.le_refl _, Nat.le_refl _⟩ ?_
        exact K1 (by simp [isOne, kAb] <;> omega)
    · skip
      refine x_iconst (pc := 20) (v := 1) dX9_isOneOf_20 (by decide) ?_
      refine x_ireturn (pc := 21) dX9_isOneOf_21 ⟨_, rfl, by decide⟩ ⟨Nat.le_refl _, Nat.le_refl _⟩ ?_
      exact K1 (by simp [isOne, kAb] <;> omega)
  | 2, _ =>
    rw [show nI 2 = 2 from rfl]
    refine x_iload_n (pc := 0) dX9_isOneOf_0 rfl rfl ?_
    refine x_istore_n (pc := 1) (lv' := [(0, .int 2), (1, .int (nI o)), (2, .int 2)]) dX9_isOneOf_1 rfl (by decide) rfl ?_
    refine x_iconst (pc := 2) (v := 0) dX9_isOneOf_2 (by decide) ?_
    refine x_istore_n (pc := 3) (lv' := [(0, .int 2), (1, .int (nI o)), (2, .int 2), (3, .int 0)]) dX9_isOneOf_3 rfl (by decide) rfl ?_
    refine x_iload_n (pc := 4) dX9_isOneOf_4 rfl rfl ?_
    refine x_bipush (pc := 5) (v := 7) dX9_isOneOf_5 (by decide) ?_
    refine x_icmp_ge_f (pc := 7) (tgt := 33) dX9_isOneOf_7 (by decide) (by decide) ?_
    refine x_iload_n (pc := 10) dX9_isOneOf_10 rfl rfl ?_
    refine x_iconst (pc := 11) (v := -1) dX9_isOneOf_11 (by decide) ?_
    refine x_icmp_eq_f (pc := 12) (tgt := 33) dX9_isOneOf_12 (by decide) (by decide) ?_
    refine x_iload_n (pc := 15) dX9_isOneOf_15 rfl rfl ?_
    refine x_iload_n (pc := 16) dX9_isOneOf_16 rfl rfl ?_
    refine x_icmpn_ne (pc := 17) (tgt := 22) (a := 2) (b := o) dX9_isOneOf_17 (by decide) (by decide) (by omega) (fun c17 => ?_) (fun c17 => ?_)
    · skip
      refine x_iload_n (pc := 22) dX9_isOneOf_22 rfl rfl ?_
      refine x_callS (pc := 23) (As := [.int _]) dX9_isOneOf_23 km_X9_kindAbove ks_X9_kindAbove kl_RX9_363 rfl (by decide) ⟨Nat.le_refl _, Nat.le_refl _⟩ rfl (Nat.le_of_ble_eq_true rfl) (Nat.le_of_ble_eq_true rfl) (c_kindAbove (k := 2) (by decide) (⟨rfl, rfl, ?_⟩))
      rw [show kAbI 2 = 0 from rfl]
      refine x_istore_n (pc := 26) (lv' := [(0, .int 2), (1, .int (nI o)), (2, .int 0), (3, .int 0)]) dX9_isOneOf_26 rfl (by decide) rfl ?_
      refine x_iinc (pc := 27) (v := 1) (lv' := [(0, .int 2), (1, .int (nI o)), (2, .int 0), (3, .int 1)]) dX9_isOneOf_27 rfl (by decide) (by decide) rfl ?_
      refine x_goto (pc := 30) (tgt := 4) dX9_isOneOf_30 (by decide) ?_
      refine x_iload_n (pc := 4) dX9_isOneOf_4 rfl rfl ?_
      refine x_bipush (pc := 5) (v := 7) dX9_isOneOf_5 (by decide) ?_
      refine x_icmp_ge_f (pc := 7) (tgt := 33) dX9_isOneOf_7 (by decide) (by decide) ?_
      refine x_iload_n (pc := 10) dX9_isOneOf_10 rfl rfl ?_
      refine x_iconst (pc := 11) (v := -1) dX9_isOneOf_11 (by decide) ?_
      refine x_icmp_eq_f (pc := 12) (tgt := 33) dX9_isOneOf_12 (by decide) (by decide) ?_
      refine x_iload_n (pc := 15) dX9_isOneOf_15 rfl rfl ?_
      refine x_iload_n (pc := 16) dX9_isOneOf_16 rfl rfl ?_
      refine x_icmpn_ne (pc := 17) (tgt := 22) (a := 0) (b := o) dX9_isOneOf_17 (by decide) (by decide) (by omega) (fun c17 => ?_) (fun c17 => ?_)
      · skip
        refine x_iload_n (pc := 22) dX9_isOneOf_22 rfl rfl ?_
        refine x_callS (pc := 23) (As := [.int _]) dX9_isOneOf_23 km_X9_kindAbove ks_X9_kindAbove kl_RX9_363 rfl (by decide) ⟨Nat.le_refl _, Nat.le_refl _⟩ rfl (Nat.le_of_ble_eq_true rfl) (Nat.le_of_ble_eq_true rfl) (c_kindAbove (k := 0) (by decide) (⟨rfl, rfl, ?_⟩))
        rw [show kAbI 0 = -1 from rfl]
        refine x_istore_n (pc := 26) (lv' := [(0, .int 2), (1, .int (nI o)), (2, .int (-1)), (3, .int 1)]) dX9_isOneOf_26 rfl (by decide) rfl ?_
        refine x_iinc (pc := 27) (v := 2) (lv' := [(0, .int 2), (1, .int (nI o)), (2, .int (-1)), (3, .int 2)]) dX9_isOneOf_27 rfl (by decide) (by decide) rfl ?_
        refine x_goto (pc := 30) (tgt := 4) dX9_isOneOf_30 (by decide) ?_
        refine x_iload_n (pc := 4) dX9_isOneOf_4 rfl rfl ?_
        refine x_bipush (pc := 5) (v := 7) dX9_isOneOf_5 (by decide) ?_
        refine x_icmp_ge_f (pc := 7) (tgt := 33) dX9_isOneOf_7 (by decide) (by decide) ?_
        refine x_iload_n (pc := 10) dX9_isOneOf_10 rfl rfl ?_
        refine x_iconst (pc := 11) (v := -1) dX9_isOneOf_11 (by decide) ?_
        refine x_icmp_eq_t (pc := 12) (tgt := 33) dX9_isOneOf_12 (by decide) (by decide) ?_
        refine x_iconst (pc := 33) (v := 0) dX9_isOneOf_33 (by decide) ?_
        refine x_ireturn (pc := 34) dX9_isOneOf_34 ⟨_, rfl, by decide⟩ ⟨Nat.le_refl _, Nat.le_refl _⟩ ?_
        exact K2 (by simp [isOne, kAb] <;> omega)
      · skip
        refine x_iconst (pc := 20) (v := 1) dX9_isOneOf_20 (by decide) ?_
        refine x_ireturn (pc := 21) dX9_isOneOf_21 ⟨_, rfl, by decide⟩ ⟨Nat.le_refl _, Nat.le_refl _⟩ ?_
        exact K1 (by simp [isOne, kAb] <;> omega)
    · skip
      refine x_iconst (pc := 20) (v := 1) dX9_isOneOf_20 (by decide) ?_
      refine x_ireturn (pc := 21) dX9_isOneOf_21 ⟨_, rfl, by decide⟩ ⟨Nat.le_refl _, Nat.le_refl _⟩ ?_
      exact K1 (by simp [isOne, kAb] <;> omega)
  | 3, _ =>
    rw [show nI 3 = 3 from rfl]
    refine x_iload_n (pc := 0) dX9_isOneOf_0 rfl rfl ?_
    refine x_istore_n (pc := 1) (lv' := [(0, .int 3), (1, .int (nI o)), (2, .int 3)]) dX9_isOneOf_1 rfl (by decide) rfl ?_
    refine x_iconst (pc := 2) (v := 0) dX9_isOneOf_2 (by decide) ?_
    refine x_istore_n (pc := 3) (lv' := [(0, .int 3), (1, .int (nI o)), (2, .int 3), (3, .int 0)]) dX9_isOneOf_3 rfl (by decide) rfl ?_
    refine x_iload_n (pc := 4) dX9_isOneOf_4 rfl rfl ?_
    refine x_bipush (pc := 5) (v := 7) dX9_isOneOf_5 (by decide) ?_
    refine x_icmp_ge_f (pc := 7) (tgt := 33) dX9_isOneOf_7 (by decide) (by decide) ?_
    refine x_iload_n (pc := 10) dX9_isOneOf_10 rfl rfl ?_
    refine x_iconst (pc := 11) (v := -1) dX9_isOneOf_11 (by decide) ?_
    refine x_icmp_eq_f (pc := 12) (tgt := 33) dX9_isOneOf_12 (by decide) (by decide) ?_
    refine x_iload_n (pc := 15) dX9_isOneOf_15 rfl rfl ?_
    refine x_iload_n (pc := 16) dX9_isOneOf_16 rfl rfl ?_
    refine x_icmpn_ne (pc := 17) (tgt := 22) (a := 3) (b := o) dX9_isOneOf_17 (by decide) (by decide) (by omega) (fun c17 => ?_) (fun c17 => ?_)
    · skip
      refine x_iload_n (pc := 22) dX9_isOneOf_22 rfl rfl ?_
      refine x_callS (pc := 23) (As := [.int _]) dX9_isOneOf_23 km_X9_kindAbove ks_X9_kindAbove kl_RX9_363 rfl (by decide) ⟨Nat.le_refl _, Nat.le_refl _⟩ rfl (Nat.le_of_ble_eq_true rfl) (Nat.le_of_ble_eq_true rfl) (c_kindAbove (k := 3) (by decide) (⟨rfl, rfl, ?_⟩))
      rw [show kAbI 3 = 0 from rfl]
      refine x_istore_n (pc := 26) (lv' := [(0, .int 3), (1, .int (nI o)), (2, .int 0), (3, .int 0)]) dX9_isOneOf_26 rfl (by decide) rfl ?_
      refine x_iinc (pc := 27) (v := 1) (lv' := [(0, .int 3), (1, .int (nI o)), (2, .int 0), (3, .int 1)]) dX9_isOneOf_27 rfl (by decide) (by decide) rfl ?_
      refine x_goto (pc := 30) (tgt := 4) dX9_isOneOf_30 (by decide) ?_
      refine x_iload_n (pc := 4) dX9_isOneOf_4 rfl rfl ?_
      refine x_bipush (pc := 5) (v := 7) dX9_isOneOf_5 (by decide) ?_
      refine x_icmp_ge_f (pc := 7) (tgt := 33) dX9_isOneOf_7 (by decide) (by decide) ?_
      refine x_iload_n (pc := 10) dX9_isOneOf_10 rfl rfl ?_
      refine x_iconst (pc := 11) (v := -1) dX9_isOneOf_11 (by decide) ?_
      refine x_icmp_eq_f (pc := 12) (tgt := 33) dX9_isOneOf_12 (by decide) (by decide) ?_
      refine x_iload_n (pc := 15) dX9_isOneOf_15 rfl rfl ?_
      refine x_iload_n (pc := 16) dX9_isOneOf_16 rfl rfl ?_
      refine x_icmpn_ne (pc := 17) (tgt := 22) (a := 0) (b := o) dX9_isOneOf_17 (by decide) (by decide) (by omega) (fun c17 => ?_) (fun c17 => ?_)
      · skip
        refine x_iload_n (pc := 22) dX9_isOneOf_22 rfl rfl ?_
        refine x_callS (pc := 23) (As := [.int _]) dX9_isOneOf_23 km_X9_kindAbove ks_X9_kindAbove kl_RX9_363 rfl (by decide) ⟨Nat.le_refl _, Nat.le_refl _⟩ rfl (Nat.le_of_ble_eq_true rfl) (Nat.le_of_ble_eq_true rfl) (c_kindAbove (k := 0) (by decide) (⟨rfl, rfl, ?_⟩))
        rw [show kAbI 0 = -1 from rfl]
        refine x_istore_n (pc := 26) (lv' := [(0, .int 3), (1, .int (nI o)), (2, .int (-1)), (3, .int 1)]) dX9_isOneOf_26 rfl (by decide) rfl ?_
        refine x_iinc (pc := 27) (v := 2) (lv' := [(0, .int 3), (1, .int (nI o)), (2, .int (-1)), (3, .int 2)]) dX9_isOneOf_27 rfl (by decide) (by decide) rfl ?_
        refine x_goto (pc := 30) (tgt := 4) dX9_isOneOf_30 (by decide) ?_
        refine x_iload_n (pc := 4) dX9_isOneOf_4 rfl rfl ?_
        refine x_bipush (pc := 5) (v := 7) dX9_isOneOf_5 (by decide) ?_
        refine x_icmp_ge_f (pc := 7) (tgt := 33) dX9_isOneOf_7 (by decide) (by decide) ?_
        refine x_iload_n (pc := 10) dX9_isOneOf_10 rfl rfl ?_
        refine x_iconst (pc := 11) (v := -1) dX9_isOneOf_11 (by decide) ?_
        refine x_icmp_eq_t (pc := 12) (tgt := 33) dX9_isOneOf_12 (by decide) (by decide) ?_
        refine x_iconst (pc := 33) (v := 0) dX9_isOneOf_33 (by decide) ?_
        refine x_ireturn (pc := 34) dX9_isOneOf_34 ⟨_, rfl, by decide⟩ ⟨Nat.le_refl _, Nat.le_refl _⟩ ?_
        exact K2 (by simp [isOne, kAb] <;> omega)
      · skip
        refine x_iconst (pc := 20) (v := 1) dX9_isOneOf_20 (by decide) ?_
        refine x_ireturn (pc := 21) dX9_isOneOf_21 ⟨_, rfl, by decide⟩ ⟨Nat.le_refl _, Nat.le_refl _⟩ ?_
        exact K1 (by simp [isOne, kAb] <;> omega)
    · skip
      refine x_iconst (pc := 20) (v := 1) dX9_isOneOf_20 (by decide) ?_
      refine x_ireturn (pc := 21) dX9_isOneOf_21 ⟨_, rfl, by decide⟩ ⟨Nat.le_refl _, Nat.le_refl _⟩ ?_
      exact K1 (by simp [isOne, kAb] <;> omega)
  | 4, _ =>
    rw [show nI 4 = 4 from rfl]
    refine x_iload_n (pc := 0) dX9_isOneOf_0 rfl rfl ?_
    refine x_istore_n (pc := 1) (lv' := [(0, .int 4), (1, .int (nI o)), (2, .int 4)]) dX9_isOneOf_1 rfl (by decide) rfl ?_
    refine x_iconst (pc := 2) (v := 0) dX9_isOneOf_2 (by decide) ?_
    refine x_istore_n (pc := 3) (lv' := [(0, .int 4), (1, .int (nI o)), (2, .int 4), (3, .int 0)]) dX9_isOneOf_3 rfl (by decide) rfl ?_
    refine x_iload_n (pc := 4) dX9_isOneOf_4 rfl rfl ?_
    refine x_bipush (pc := 5) (v := 7) dX9_isOneOf_5 (by decide) ?_
    refine x_icmp_ge_f (pc := 7) (tgt := 33) dX9_isOneOf_7 (by decide) (by decide) ?_
    refine x_iload_n (pc := 10) dX9_isOneOf_10 rfl rfl ?_
    refine x_iconst (pc := 11) (v := -1) dX9_isOneOf_11 (by decide) ?_
    refine x_icmp_eq_f (pc := 12) (tgt := 33) dX9_isOneOf_12 (by decide) (by decide) ?_
    refine x_iload_n (pc := 15) dX9_isOneOf_15 rfl rfl ?_
    refine x_iload_n (pc := 16) dX9_isOneOf_16 rfl rfl ?_
    refine x_icmpn_ne (pc := 17) (tgt := 22) (a := 4) (b := o) dX9_isOneOf_17 (by decide) (by decide) (by omega) (fun c17 => ?_) (fun c17 => ?_)
    · skip
      refine x_iload_n (pc := 22) dX9_isOneOf_22 rfl rfl ?_
      refine x_callS (pc := 23) (As := [.int _]) dX9_isOneOf_23 km_X9_kindAbove ks_X9_kindAbove kl_RX9_363 rfl (by decide) ⟨Nat.le_refl _, Nat.le_refl _⟩ rfl (Nat.le_of_ble_eq_true rfl) (Nat.le_of_ble_eq_true rfl) (c_kindAbove (k := 4) (by decide) (⟨rfl, rfl, ?_⟩))
      rw [show kAbI 4 = 1 from rfl]
      refine x_istore_n (pc := 26) (lv' := [(0, .int 4), (1, .int (nI o)), (2, .int 1), (3, .int 0)]) dX9_isOneOf_26 rfl (by decide) rfl ?_
      refine x_iinc (pc := 27) (v := 1) (lv' := [(0, .int 4), (1, .int (nI o)), (2, .int 1), (3, .int 1)]) dX9_isOneOf_27 rfl (by decide) (by decide) rfl ?_
      refine x_goto (pc := 30) (tgt := 4) dX9_isOneOf_30 (by decide) ?_
      refine x_iload_n (pc := 4) dX9_isOneOf_4 rfl rfl ?_
      refine x_bipush (pc := 5) (v := 7) dX9_isOneOf_5 (by decide) ?_
      refine x_icmp_ge_f (pc := 7) (tgt := 33) dX9_isOneOf_7 (by decide) (by decide) ?_
      refine x_iload_n (pc := 10) dX9_isOneOf_10 rfl rfl ?_
      refine x_iconst (pc := 11) (v := -1) dX9_isOneOf_11 (by decide) ?_
      refine x_icmp_eq_f (pc := 12) (tgt := 33) dX9_isOneOf_12 (by decide) (by decide) ?_
      refine x_iload_n (pc := 15) dX9_isOneOf_15 rfl rfl ?_
      refine x_iload_n (pc := 16) dX9_isOneOf_16 rfl rfl ?_
      refine x_icmpn_ne (pc := 17) (tgt := 22) (a := 1) (b := o) dX9_isOneOf_17 (by decide) (by decide) (by omega) (fun c17 => ?_) (fun c17 => ?_)
      · skip
        refine x_iload_n (pc := 22) dX9_isOneOf_22 rfl rfl ?_
        refine x_callS (pc := 23) (As := [.int _]) dX9_isOneOf_23 km_X9_kindAbove ks_X9_kindAbove kl_RX9_363 rfl (by decide) ⟨Nat.le_refl _, Nat.le_refl _⟩ rfl (Nat.le_of_ble_eq_true rfl) (Nat.le_of_ble_eq_true rfl) (c_kindAbove (k := 1) (by decide) (⟨rfl, rfl, ?_⟩))
        rw [show kAbI 1 = 0 from rfl]
        refine x_istore_n (pc := 26) (lv' := [(0, .int 4), (1, .int (nI o)), (2, .int 0), (3, .int 1)]) dX9_isOneOf_26 rfl (by decide) rfl ?_
        refine x_iinc (pc := 27) (v := 2) (lv' := [(0, .int 4), (1, .int (nI o)), (2, .int 0), (3, .int 2)]) dX9_isOneOf_27 rfl (by decide) (by decide) rfl ?_
        refine x_goto (pc := 30) (tgt := 4) dX9_isOneOf_30 (by decide) ?_
        refine x_iload_n (pc := 4) dX9_isOneOf_4 rfl rfl ?_
        refine x_bipush (pc := 5) (v := 7) dX9_isOneOf_5 (by decide) ?_
        refine x_icmp_ge_f (pc := 7) (tgt := 33) dX9_isOneOf_7 (by decide) (by decide) ?_
        refine x_iload_n (pc := 10) dX9_isOneOf_10 rfl rfl ?_
        refine x_iconst (pc := 11) (v := -1) dX9_isOneOf_11 (by decide) ?_
        refine x_icmp_eq_f (pc := 12) (tgt := 33) dX9_isOneOf_12 (by decide) (by decide) ?_
        refine x_iload_n (pc := 15) dX9_isOneOf_15 rfl rfl ?_
        refine x_iload_n (pc := 16) dX9_isOneOf_16 rfl rfl ?_
        refine x_icmpn_ne (pc := 17) (tgt := 22) (a := 0) (b := o) dX9_isOneOf_17 (by decide) (by decide) (by omega) (fun c17 => ?_) (fun c17 => ?_)
        · skip
          refine x_iload_n (pc := 22) dX9_isOneOf_22 rfl rfl ?_
          refine x_callS (pc := 23) (As := [.int _]) dX9_isOneOf_23 km_X9_kindAbove ks_X9_kindAbove kl_RX9_363 rfl (by decide) ⟨Nat.le_refl _, Nat.le_refl _⟩ rfl (Nat.le_of_ble_eq_true rfl) (Nat.le_of_ble_eq_true rfl) (c_kindAbove (k := 0) (by decide) (⟨rfl, rfl, ?_⟩))
          rw [show kAbI 0 = -1 from rfl]
          refine x_istore_n (pc := 26) (lv' := [(0, .int 4), (1, .int (nI o)), (2, .int (-1)), (3, .int 2)]) dX9_isOneOf_26 rfl (by decide) rfl ?_
          refine x_iinc (pc := 27) (v := 3) (lv' := [(0, .int 4), (1, .int (nI o)), (2, .int (-1)), (3, .int 3)]) dX9_isOneOf_27 rfl (by decide) (by decide) rfl ?_
          refine x_goto (pc := 30) (tgt := 4) dX9_isOneOf_30 (by decide) ?_
          refine x_iload_n (pc := 4) dX9_isOneOf_4 rfl rfl ?_
          refine x_bipush (pc := 5) (v := 7) dX9_isOneOf_5 (by decide) ?_
          refine x_icmp_ge_f (pc := 7) (tgt := 33) dX9_isOneOf_7 (by decide) (by decide) ?_
          refine x_iload_n (pc := 10) dX9_isOneOf_10 rfl rfl ?_
          refine x_iconst (pc := 11) (v := -1) dX9_isOneOf_11 (by decide) ?_
          refine x_icmp_eq_t (pc := 12) (tgt := 33) dX9_isOneOf_12 (by decide) (by decide) ?_
          refine x_iconst (pc := 33) (v := 0) dX9_isOneOf_33 (by decide) ?_
          refine x_ireturn (pc := 34) dX9_isOneOf_34 ⟨_, rfl, by decide⟩ ⟨Nat.le_refl _, Nat.le_refl _⟩ ?_
          exact K2 (by simp [isOne, kAb] <;> omega)
        · skip
          refine x_iconst (pc := 20) (v := 1) dX9_isOneOf_20 (by decide) ?_
          refine x_ireturn (pc := 21) dX9_isOneOf_21 ⟨_, rfl, by decide⟩ ⟨Nat.le_refl _, Nat.le_refl _⟩ ?_
          exact K1 (by simp [isOne, kAb] <;> omega)
      · skip
        refine x_iconst (pc := 20) (v := 1) dX9_isOneOf_20 (by decide) ?_
        refine x_ireturn (pc := 21) dX9_isOneOf_21 ⟨_, rfl, by decide⟩ ⟨Nat.le_refl _, Nat.le_refl _⟩ ?_
        exact K1 (by simp [isOne, kAb] <;> omega)
    · skip
      refine x_iconst (pc := 20) (v := 1) dX9_isOneOf_20 (by decide) ?_
      refine x_ireturn (pc := 21) dX9_isOneOf_21 ⟨_, rfl, by decide⟩ ⟨Nat.le_refl _, Nat.le_refl _⟩ ?_
      exact K1 (by simp [isOne, kAb] <;> omega)
  | 5, _ =>
    rw [show nI 5 = 5 from rfl]
    refine x_iload_n (pc := 0) dX9_isOneOf_0 rfl rfl ?_
    refine x_istore_n (pc := 1) (lv' := [(0, .int 5), (1, .int (nI o)), (2, .int 5)]) dX9_isOneOf_1 rfl (by decide) rfl ?_
    refine x_iconst (pc := 2) (v := 0) dX9_isOneOf_2 (by decide) ?_
    refine x_istore_n (pc := 3) (lv' := [(0, .int 5), (1, .int (nI o)), (2, .int 5), (3, .int 0)]) dX9_isOneOf_3 rfl (by decide) rfl ?_
    refine x_iload_n (pc := 4) dX9_isOneOf_4 rfl rfl ?_
    refine x_bipush (pc := 5) (v := 7) dX9_isOneOf_5 (by decide) ?_
    refine x_icmp_ge_f (pc := 7) (tgt := 33) dX9_isOneOf_7 (by decide) (by decide) ?_
    refine x_iload_n (pc := 10) dX9_isOneOf_10 rfl rfl ?_
    refine x_iconst (pc := 11) (v := -1) dX9_isOneOf_11 (by decide) ?_
    refine x_icmp_eq_f (pc := 12) (tgt := 33) dX9_isOneOf_12 (by decide) (by decide) ?_
    refine x_iload_n (pc := 15) dX9_isOneOf_15 rfl rfl ?_
    refine x_iload_n (pc := 16) dX9_isOneOf_16 rfl rfl ?_
    refine x_icmpn_ne (pc := 17) (tgt := 22) (a := 5) (b := o) dX9_isOneOf_17 (by decide) (by decide) (by omega) (fun c17 => ?_) (fun c17 => ?_)
    · skip
      refine x_iload_n (pc := 22) dX9_isOneOf_22 rfl rfl ?_
      refine x_callS (pc := 23) (As := [.int _]) dX9_isOneOf_23 km_X9_kindAbove ks_X9_kindAbove kl_RX9_363 rfl (by decide) ⟨Nat.le_refl _, Nat.le_refl _⟩ rfl (Nat.le_of_ble_eq_true rfl) (Nat.le_of_ble_eq_true rfl) (c_kindAbove (k := 5) (by decide) (⟨rfl, rfl, ?_⟩))
      rw [show kAbI 5 = 1 from rfl]
      refine x_istore_n (pc := 26) (lv' := [(0, .int 5), (1, .int (nI o)), (2, .int 1), (3, .int 0)]) dX9_isOneOf_26 rfl (by decide) rfl ?_
      refine x_iinc (pc := 27) (v := 1) (lv' := [(0, .int 5), (1, .int (nI o)), (2, .int 1), (3, .int 1)]) dX9_isOneOf_27 rfl (by decide) (by decide) rfl ?_
      refine x_goto (pc := 30) (tgt := 4) dX9_isOneOf_30 (by decide) ?_
      refine x_iload_n (pc := 4) dX9_isOneOf_4 rfl rfl ?_
      refine x_bipush (pc := 5) (v := 7) dX9_isOneOf_5 (by decide) ?_
      refine x_icmp_ge_f (pc := 7) (tgt := 33) dX9_isOneOf_7 (by decide) (by decide) ?_
      refine x_iload_n (pc := 10) dX9_isOneOf_10 rfl rfl ?_
      refine x_iconst (pc := 11) (v := -1) dX9_isOneOf_11 (by decide) ?_
      refine x_icmp_eq_f (pc := 12) (tgt := 33) dX9_isOneOf_12 (by decide) (by decide) ?_
      refine x_iload_n (pc := 15) dX9_isOneOf_15 rfl rfl ?_
      refine x_iload_n (pc := 16) dX9_isOneOf_16 rfl rfl ?_
      refine x_icmpn_ne (pc := 17) (tgt := 22) (a := 1) (b := o) dX9_isOneOf_17 (by decide) (by decide) (by omega) (fun c17 => ?_) (fun c17 => ?_)
      · skip
        refine x_iload_n (pc := 22) dX9_isOneOf_22 rfl rfl ?_
        refine x_callS (pc := 23) (As := [.int _]) dX9_isOneOf_23 km_X9_kindAbove ks_X9_kindAbove kl_RX9_363 rfl (by decide) ⟨Nat.le_refl _, Nat.le_refl _⟩ rfl (Nat.le_of_ble_eq_true rfl) (Nat.le_of_ble_eq_true rfl) (c_kindAbove (k := 1) (by decide) (⟨rfl, rfl, ?_⟩))
        rw [show kAbI 1 = 0 from rfl]
        refine x_istore_n (pc := 26) (lv' := [(0, .int 5), (1, .int (nI o)), (2, .int 0), (3, .int 1)]) dX9_isOneOf_26 rfl (by decide) rfl ?_
        refine x_iinc (pc := 27) (v := 2) (lv' := [(0, .int 5), (1, .int (nI o)), (2, .int 0), (3, .int 2)]) dX9_isOneOf_27 rfl (by decide) (by decide) rfl ?_
        refine x_goto (pc := 30) (tgt := 4) dX9_isOneOf_30 (by decide) ?_
        refine x_iload_n (pc := 4) dX9_isOneOf_4 rfl rfl ?_
        refine x_bipush (pc := 5) (v := 7) dX9_isOneOf_5 (by decide) ?_
        refine x_icmp_ge_f (pc := 7) (tgt := 33) dX9_isOneOf_7 (by decide) (by decide) ?_
        refine x_iload_n (pc := 10) dX9_isOneOf_10 rfl rfl ?_
        refine x_iconst (pc := 11) (v := -1) dX9_isOneOf_11 (by decide) ?_
        refine x_icmp_eq_f (pc := 12) (tgt := 33) dX9_isOneOf_12 (by decide) (by decide) ?_
        refine x_iload_n (pc := 15) dX9_isOneOf_15 rfl rfl ?_
        refine x_iload_n (pc := 16) dX9_isOneOf_16 rfl rfl ?_
        refine x_icmpn_ne (pc := 17) (tgt := 22) (a := 0) (b := o) dX9_isOneOf_17 (by decide) (by decide) (by omega) (fun c17 => ?_) (fun c17 => ?_)
        · skip
          refine x_iload_n (pc := 22) dX9_isOneOf_22 rfl rfl ?_
          refine x_callS (pc := 23) (As := [.int _]) dX9_isOneOf_23 km_X9_kindAbove ks_X9_kindAbove kl_RX9_363 rfl (by decide) ⟨Nat.le_refl _, Nat.le_refl _⟩ rfl (Nat.le_of_ble_eq_true rfl) (Nat.le_of_ble_eq_true rfl) (c_kindAbove (k := 0) (by decide) (⟨rfl, rfl, ?_⟩))
          rw [show kAbI 0 = -1 from rfl]
          refine x_istore_n (pc := 26) (lv' := [(0, .int 5), (1, .int (nI o)), (2, .int (-1)), (3, .int 2)]) dX9_isOneOf_26 rfl (by decide) rfl ?_
          refine x_iinc (pc := 27) (v := 3) (lv' := [(0, .int 5), (1, .int (nI o)), (2, .int (-1)), (3, .int 3)]) dX9_isOneOf_27 rfl (by decide) (by decide) rfl ?_
          refine x_goto (pc := 30) (tgt := 4) dX9_isOneOf_30 (by decide) ?_
          refine x_iload_n (pc := 4) dX9_isOneOf_4 rfl rfl ?_
          refine x_bipush (pc := 5) (v := 7) dX9_isOneOf_5 (by decide) ?_
          refine x_icmp_ge_f (pc := 7) (tgt := 33) dX9_isOneOf_7 (by decide) (by decide) ?_
          refine x_iload_n (pc := 10) dX9_isOneOf_10 rfl rfl ?_
          refine x_iconst (pc := 11) (v := -1) dX9_isOneOf_11 (by decide) ?_
          refine x_icmp_eq_t (pc := 12) (tgt := 33) dX9_isOneOf_12 (by decide) (by decide) ?_
          refine x_iconst (pc := 33) (v := 0) dX9_isOneOf_33 (by decide) ?_
          refine x_ireturn (pc := 34) dX9_isOneOf_34 ⟨_, rfl, by decide⟩ ⟨Nat.le_refl _, Nat.le_refl _⟩ ?_
          exact K2 (by simp [isOne, kAb] <;> omega)
        · skip
          refine x_iconst (pc := 20) (v := 1) dX9_isOneOf_20 (by decide) ?_
          refine x_ireturn (pc := 21) dX9_isOneOf_21 ⟨_, rfl, by decide⟩ ⟨Nat.le_refl _, Nat.le_refl _⟩ ?_
          exact K1 (by simp [isOne, kAb] <;> omega)
      · skip
        refine x_iconst (pc := 20) (v := 1) dX9_isOneOf_20 (by decide) ?_
        refine x_ireturn (pc := 21) dX9_isOneOf_21 ⟨_, rfl, by decide⟩ ⟨Nat.le_refl _, Nat.le_refl _⟩ ?_
        exact K1 (by simp [isOne, kAb] <;> omega)
    · skip
      refine x_iconst (pc := 20) (v := 1) dX9_isOneOf_20 (by decide) ?_
      refine x_ireturn (pc := 21) dX9_isOneOf_21 ⟨_, rfl, by decide⟩ ⟨Nat.le_refl _, Nat.le_refl _⟩ ?_
      exact K1 (by simp [isOne, kAb] <;> omega)
  | 6, _ =>
    rw [show nI 6 = 6 from rfl]
    refine x_iload_n (pc := 0) dX9_isOneOf_0 rfl rfl ?_
    refine x_istore_n (pc := 1) (lv' := [(0, .int 6), (1, .int (nI o)), (2, .int 6)]) dX9_isOneOf_1 rfl (by decide) rfl ?_
    refine x_iconst (pc := 2) (v := 0) dX9_isOneOf_2 (by decide) ?_
    refine x_istore_n (pc := 3) (lv' := [(0, .int 6), (1, .int (nI o)), (2, .int 6), (3, .int 0)]) dX9_isOneOf_3 rfl (by decide) rfl ?_
    refine x_iload_n (pc := 4) dX9_isOneOf_4 rfl rfl ?_
    refine x_bipush (pc := 5) (v := 7) dX9_isOneOf_5 (by decide) ?_
    refine x_icmp_ge_f (pc := 7) (tgt := 33) dX9_isOneOf_7 (by decide) (by decide) ?_
    refine x_iload_n (pc := 10) dX9_isOneOf_10 rfl rfl ?_
    refine x_iconst (pc := 11) (v := -1) dX9_isOneOf_11 (by decide) ?_
    refine x_icmp_eq_f (pc := 12) (tgt := 33) dX9_isOneOf_12 (by decide) (by decide) ?_
    refine x_iload_n (pc := 15) dX9_isOneOf_15 rfl rfl ?_
    refine x_iload_n (pc := 16) dX9_isOneOf_16 rfl rfl ?_
    refine x_icmpn_ne (pc := 17) (tgt := 22) (a := 6) (b := o) dX9_isOneOf_17 (by decide) (by decide) (by omega) (fun c17 => ?_) (fun c17 => ?_)
    · skip
      refine x_iload_n (pc := 22) dX9_isOneOf_22 rfl rfl ?_
      refine x_callS (pc := 23) (As := [.int _]) dX9_isOneOf_23 km_X9_kindAbove ks_X9_kindAbove kl_RX9_363 rfl (by decide) ⟨Nat.le_refl _, Nat.le_refl _⟩ rfl (Nat.le_of_ble_eq_true rfl) (Nat.le_of_ble_eq_true rfl) (c_kindAbove (k := 6) (by decide) (⟨rfl, rfl, ?_⟩))
      rw [show kAbI 6 = 2 from rfl]
      refine x_istore_n (pc := 26) (lv' := [(0, .int 6), (1, .int (nI o)), (2, .int 2), (3, .int 0)]) dX9_isOneOf_26 rfl (by decide) rfl ?_
      refine x_iinc (pc := 27) (v := 1) (lv' := [(0, .int 6), (1, .int (nI o)), (2, .int 2), (3, .int 1)]) dX9_isOneOf_27 rfl (by decide) (by decide) rfl ?_
      refine x_goto (pc := 30) (tgt := 4) dX9_isOneOf_30 (by decide) ?_
      refine x_iload_n (pc := 4) dX9_isOneOf_4 rfl rfl ?_
      refine x_bipush (pc := 5) (v := 7) dX9_isOneOf_5 (by decide) ?_
      refine x_icmp_ge_f (pc := 7) (tgt := 33) dX9_isOneOf_7 (by decide) (by decide) ?_
      refine x_iload_n (pc := 10) dX9_isOneOf_10 rfl rfl ?_
      refine x_iconst (pc := 11) (v := -1) dX9_isOneOf_11 (by decide) ?_
      refine x_icmp_eq_f (pc := 12) (tgt := 33) dX9_isOneOf_12 (by decide) (by decide) ?_
      refine x_iload_n (pc := 15) dX9_isOneOf_15 rfl rfl ?_
      refine x_iload_n (pc := 16) dX9_isOneOf_16 rfl rfl ?_
      refine x_icmpn_ne (pc := 17) (tgt := 22) (a := 2) (b := o) dX9_isOneOf_17 (by decide) (by decide) (by omega) (fun c17 => ?_) (fun c17 => ?_)
      · skip
        refine x_iload_n (pc := 22) dX9_isOneOf_22 rfl rfl ?_
        refine x_callS (pc := 23) (As := [.int _]) dX9_isOneOf_23 km_X9_kindAbove ks_X9_kindAbove kl_RX9_363 rfl (by decide) ⟨Nat.le_refl _, Nat.le_refl _⟩ rfl (Nat.le_of_ble_eq_true rfl) (Nat.le_of_ble_eq_true rfl) (c_kindAbove (k := 2) (by decide) (⟨rfl, rfl, ?_⟩))
        rw [show kAbI 2 = 0 from rfl]
        refine x_istore_n (pc := 26) (lv' := [(0, .int 6), (1, .int (nI o)), (2, .int 0), (3, .int 1)]) dX9_isOneOf_26 rfl (by decide) rfl ?_
        refine x_iinc (pc := 27) (v := 2) (lv' := [(0, .int 6), (1, .int (nI o)), (2, .int 0), (3, .int 2)]) dX9_isOneOf_27 rfl (by decide) (by decide) rfl ?_
        refine x_goto (pc := 30) (tgt := 4) dX9_isOneOf_30 (by decide) ?_
        refine x_iload_n (pc := 4) dX9_isOneOf_4 rfl rfl ?_
        refine x_bipush (pc := 5) (v := 7) dX9_isOneOf_5 (by decide) ?_
        refine x_icmp_ge_f (pc := 7) (tgt := 33) dX9_isOneOf_7 (by decide) (by decide) ?_
        refine x_iload_n (pc := 10) dX9_isOneOf_10 rfl rfl ?_
        refine x_iconst (pc := 11) (v := -1) dX9_isOneOf_11 (by decide) ?_
        refine x_icmp_eq_f (pc := 12) (tgt := 33) dX9_isOneOf_12 (by decide) (by decide) ?_
        refine x_iload_n (pc := 15) dX9_isOneOf_15 rfl rfl ?_
        refine x_iload_n (pc := 16) dX9_isOneOf_16 rfl rfl ?_
        refine x_icmpn_ne (pc := 17) (tgt := 22) (a := 0) (b := o) dX9_isOneOf_17 (by decide) (by decide) (by omega) (fun c17 => ?_) (fun c17 => ?_)
        · skip
          refine x_iload_n (pc := 22) dX9_isOneOf_22 rfl rfl ?_
          refine x_callS (pc := 23) (As := [.int _]) dX9_isOneOf_23 km_X9_kindAbove ks_X9_kindAbove kl_RX9_363 rfl (by decide) ⟨Nat.le_refl _, Nat.le_refl _⟩ rfl (Nat.le_of_ble_eq_true rfl) (Nat.le_of_ble_eq_true rfl) (c_kindAbove (k := 0) (by decide) (⟨rfl, rfl, ?_⟩))
          rw [show kAbI 0 = -1 from rfl]
          refine x_istore_n (pc := 26) (lv' := [(0, .int 6), (1, .int (nI o)), (2, .int (-1)), (3, .int 2)]) dX9_isOneOf_26 rfl (by decide) rfl ?_
          refine x_iinc (pc := 27) (v := 3) (lv' := [(0, .int 6), (1, .int (nI o)), (2, .int (-1)), (3, .int 3)]) dX9_isOneOf_27 rfl (by decide) (by decide) rfl ?_
          refine x_goto (pc := 30) (tgt := 4) dX9_isOneOf_30 (by decide) ?_
          refine x_iload_n (pc := 4) dX9_isOneOf_4 rfl rfl ?_
          refine x_bipush (pc := 5) (v := 7) dX9_isOneOf_5 (by decide) ?_
          refine x_icmp_ge_f (pc := 7) (tgt := 33) dX9_isOneOf_7 (by decide) (by decide) ?_
          refine x_iload_n (pc := 10) dX9_isOneOf_10 rfl rfl ?_
          refine x_iconst (pc := 11) (v := -1) dX9_isOneOf_11 (by decide) ?_
          refine x_icmp_eq_t (pc := 12) (tgt := 33) dX9_isOneOf_12 (by decide) (by decide) ?_
          refine x_iconst (pc := 33) (v := 0) dX9_isOneOf_33 (by decide) ?_
          refine x_ireturn (pc := 34) dX9_isOneOf_34 ⟨_, rfl, by decide⟩ ⟨Nat.le_refl _, Nat.le_refl _⟩ ?_
          exact K2 (by simp [isOne, kAb] <;> omega)
        · skip
          refine x_iconst (pc := 20) (v := 1) dX9_isOneOf_20 (by decide) ?_
          refine x_ireturn (pc := 21) dX9_isOneOf_21 ⟨_, rfl, by decide⟩ ⟨Nat.le_refl _, Nat.le_refl _⟩ ?_
          exact K1 (by simp [isOne, kAb] <;> omega)
      · skip
        refine x_iconst (pc := 20) (v := 1) dX9_isOneOf_20 (by decide) ?_
        refine x_ireturn (pc := 21) dX9_isOneOf_21 ⟨_, rfl, by decide⟩ ⟨Nat.le_refl _, Nat.le_refl _⟩ ?_
        exact K1 (by simp [isOne, kAb] <;> omega)
    · skip
      refine x_iconst (pc := 20) (v := 1) dX9_isOneOf_20 (by decide) ?_
      refine x_ireturn (pc := 21) dX9_isOneOf_21 ⟨_, rfl, by decide⟩ ⟨Nat.le_refl _, Nat.le_refl _⟩ ?_
      exact K1 (by simp [isOne, kAb] <;> omega)

