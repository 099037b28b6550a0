/-! ===== tapes: the class ===== -/
theorem len_toInt {m : Nat} (h : m < 2 ^ 30) : (nI m - 1).toInt = (m : Int) - 1 := pk_sub_toInt (b := 1) h (by decide)
theorem len_in {m : Nat} {x : Int32} (h : m < 2 ^ 30) (h1 : ¬ x < 0) (h2 : ¬ nI m - 1 < x) : ∃ k : Nat, k < m ∧ x = nI k := by
  obtain ⟨j, hj, rfl⟩ := nI_of h1
  refine ⟨j, ?_, rfl⟩
  have := Int32.not_lt.mp h2
  have := Int32.le_iff_toInt_le.mp this
  rw [len_toInt h, nI_toInt hj] at this
  omega
theorem len_out {m : Nat} {x : Int32} (h : m < 2 ^ 30) (h1 : x < 0 ∨ nI m - 1 < x) : x < 0 ∨ nI m ≤ x := by
  refine h1.imp id (fun q => ?_)
  have := Int32.lt_iff_toInt_lt.mp q
  rw [len_toInt h] at this
  refine Int32.le_iff_toInt_le.mpr ?_
  rw [nI_toInt (by omega)]
  omega
theorem sub_toI {a b : Nat} (ha : a < 2 ^ 31) (hb : b < 2 ^ 31) : (nI a - nI b).toInt = (a : Int) - b := by
  rw [Int32.toInt_sub, nI_toInt (by omega), nI_toInt (by omega)]
  exact Int.bmod_eq_of_le (by omega) (by omega)
/-- tapes: of each its sort (-1: nothing), its length, its items -/
abbrev xW : Type := Nat → Int32 × Nat × (Nat → Int64)
def setT (W : xW) (t : Nat) (z : Int32 × Nat × (Nat → Int64)) : xW := fun u => if u = t then z else W u
theorem setT_s {W : xW} {t : Nat} {z : Int32 × Nat × (Nat → Int64)} : setT W t z t = z := if_pos rfl
theorem setT_o {W : xW} {t u : Nat} {z : Int32 × Nat × (Nat → Int64)} (h : ¬ u = t) : setT W t z u = W u := if_neg h
def TOK1 (z : Int32 × Nat × (Nat → Int64)) : Prop := z.2.1 ≤ 60 ∧ ((z.1 = -1 ∧ z.2.1 = 0) ∨ ∃ k, k < 5 ∧ z.1 = nI k)
def TOK (W : xW) : Prop := ∀ t, t < 6 → TOK1 (W t)
theorem TOK.set {W : xW} {t : Nat} {z : Int32 × Nat × (Nat → Int64)} (h : TOK W) (hz : TOK1 z) : TOK (setT W t z) := fun u hu => by
  by_cases e : u = t
  · rw [e, setT_s]; exact hz
  · rw [setT_o e]; exact h u hu
def TPC (I : xI) (L : xL) (W : xW) : Prop := ∀ t, t < 6 → I (125 + 2 * t) 1 = (W t).1 ∧ I (125 + 2 * t) 2 = nI (W t).2.1 ∧ ∀ i, i < (W t).2.1 → L (126 + 2 * t) i = (W t).2.2 i
def TPM (I : xI) (L : xL) (M : Nat) (W : xW) : Prop := ∀ t, t < 6 → I (M + 36) t = (W t).1 ∧ I (M + 37) t = nI (W t).2.1 ∧ ∀ i, i < (W t).2.1 → L (M + 38) (60 * t + i) = (W t).2.2 i
theorem TPC.keep {I I' : xI} {L : xL} {W : xW} (h : TPC I L W) (hk : ∀ a, 125 ≤ a → a < 137 → I' a = I a) : TPC I' L W := fun t ht => by
  rw [hk _ (by omega) (by omega)]
  exact h t ht
theorem TPC.keepL {I : xI} {L L' : xL} {W : xW} (h : TPC I L W) (hk : ∀ a, 125 ≤ a → a < 137 → L' a = L a) : TPC I L' W := fun t ht => by
  rw [hk _ (by omega) (by omega)]
  exact h t ht
theorem TPM.keep {I I' : xI} {L : xL} {M : Nat} {W : xW} (h : TPM I L M W) (h1 : I' (M + 36) = I (M + 36)) (h2 : I' (M + 37) = I (M + 37)) : TPM I' L M W := fun t ht => by
  rw [h1, h2]
  exact h t ht
/-- one tape anew: class -/
theorem TPC.set {I I' : xI} {L L' : xL} {W : xW} {t : Nat} {z : Int32 × Nat × (Nat → Int64)} (h : TPC I L W) (hI : ∀ a, a ≠ 125 + 2 * t → I' a = I a) (hL : ∀ a, a ≠ 126 + 2 * t → L' a = L a) (h1 : I' (125 + 2 * t) 1 = z.1) (h2 : I' (125 + 2 * t) 2 = nI z.2.1) (h3 : ∀ i, i < z.2.1 → L' (126 + 2 * t) i = z.2.2 i) : TPC I' L' (setT W t z) := fun u hu => by
  by_cases e : u = t
  · subst e
    rw [setT_s]
    exact ⟨h1, h2, h3⟩
  · rw [setT_o e, hI _ (by omega), hL _ (by omega)]
    exact h u hu
theorem TPM.set {I I' : xI} {L L' : xL} {M : Nat} {W : xW} {t : Nat} {z : Int32 × Nat × (Nat → Int64)} (h : TPM I L M W) (ho : TOK W) (ht : t < 6) (hI : ∀ u, ¬ u = t → I' (M + 36) u = I (M + 36) u ∧ I' (M + 37) u = I (M + 37) u) (hL : ∀ j, (j < 60 * t ∨ 60 * t + 60 ≤ j) → L' (M + 38) j = L (M + 38) j) (h1 : I' (M + 36) t = z.1) (h2 : I' (M + 37) t = nI z.2.1) (h3 : ∀ i, i < z.2.1 → L' (M + 38) (60 * t + i) = z.2.2 i) : TPM I' L' M (setT W t z) := fun u hu => by
  by_cases e : u = t
  · subst e
    rw [setT_s]
    exact ⟨h1, h2, h3⟩
  · rw [setT_o e, (hI u e).1, (hI u e).2]
    obtain ⟨a1, a2, a3⟩ := h u hu
    refine ⟨a1, a2, fun i hi => ?_⟩
    have := (ho u hu).1
    rw [hL _ (by omega)]
    exact a3 i hi
/-- an item's lowest bits -/
def nar (s : Int32) (v : Int64) : Int64 := if s = 0 then v.toInt32.toInt8.toInt32.toInt64 else if s = 1 then v.toInt32.toInt16.toInt32.toInt64 else if s = 2 then v.toInt32.toInt64 else if s = 4 then (if lg_cmp v 0 = 0 then 0 else 1) else v
def prt (le : Nat) (x n : Int32) : Prop := ∃ i m, x = nI i ∧ n = nI m ∧ i + m ≤ le
def spTape (W : xW) (x s n : Int32) : Int32 × xW := match idx 6 x with
  | none => (-1, W)
  | some t => if s = -1 then (1, setT W t (-1, 0, fun _ => 0)) else match idx 5 s with
    | none => (-2, W)
    | some k => if 60 < n then (-2, W) else if n < 0 then (-14, W) else (1, setT W t (nI k, n.toNatClampNeg, fun _ => 0))
def itT (z : Int32 × Nat × (Nat → Int64)) (i : Nat) (v : Int64) : Int32 × Nat × (Nat → Int64) := (z.1, z.2.1, fun j => if j = i then nar z.1 v else z.2.2 j)
def spItem (W : xW) (x y : Int32) (v : Int64) : Int32 × xW := match idx 6 x with
  | none => (-1, W)
  | some t => if (W t).1 = -1 then (-11, W) else match idx (W t).2.1 y with
    | none => (-13, W)
    | some i => (1, setT W t (itT (W t) i v))
def spRead (W : xW) (x y : Int32) : Int64 := match idx 6 x with
  | none => -9223372036854775808
  | some t => if (W t).1 = -1 then -9223372036854775808 else match idx (W t).2.1 y with
    | none => -9223372036854775808
    | some i => (W t).2.2 i
section SPT
variable {W : xW} {x y s n : Int32} {t k i m : Nat} {v : Int64}
theorem six_n (h : x < 0 ∨ nI 6 ≤ x) : idx 6 x = none := idx_n h
theorem spTape_n (h : x < 0 ∨ nI 6 ≤ x) : spTape W x s n = (-1, W) := by
  unfold spTape
  rw [six_n h]
theorem spTape_e (ht : t < 6) : spTape W (nI t) (-1) n = (1, setT W t (-1, 0, fun _ => 0)) := by
  unfold spTape
  rw [idx_s ht (by decide)]
  exact if_pos rfl
theorem spTape_s (ht : t < 6) (h1 : ¬ s = -1) (h : s < 0 ∨ 4 < s) : spTape W (nI t) s n = (-2, W) := by
  unfold spTape
  rw [idx_s ht (by decide)]
  refine (if_neg h1).trans ?_
  rw [idx_n (n := 5) (h.imp id (fun h => le_of_lt1 (n := 4) (by decide) h))]
theorem spTape_k (ht : t < 6) (hk : k < 5) : spTape W (nI t) (nI k) n = if 60 < n then (-2, W) else if n < 0 then (-14, W) else (1, setT W t (nI k, n.toNatClampNeg, fun _ => 0)) := by
  unfold spTape
  rw [idx_s ht (by decide)]
  refine (if_neg (nI_nem (by omega))).trans ?_
  rw [idx_s hk (by decide)]
theorem spItem_n (h : x < 0 ∨ nI 6 ≤ x) : spItem W x y v = (-1, W) := by
  unfold spItem
  rw [six_n h]
theorem spItem_e (ht : t < 6) (h : (W t).1 = -1) : spItem W (nI t) y v = (-11, W) := by
  unfold spItem
  rw [idx_s ht (by decide)]
  exact if_pos h
theorem spItem_p (ht : t < 6) (h : ¬ (W t).1 = -1) (h2 : y < 0 ∨ nI (W t).2.1 ≤ y) : spItem W (nI t) y v = (-13, W) := by
  unfold spItem
  rw [idx_s ht (by decide)]
  refine (if_neg h).trans ?_
  rw [idx_n h2]
theorem spItem_s (ht : t < 6) (h : ¬ (W t).1 = -1) (h60 : (W t).2.1 ≤ 60) (hi : i < (W t).2.1) : spItem W (nI t) (nI i) v = (1, setT W t (itT (W t) i v)) := by
  unfold spItem
  rw [idx_s ht (by decide)]
  refine (if_neg h).trans ?_
  rw [idx_s hi (by omega)]
theorem spRead_n (h : x < 0 ∨ nI 6 ≤ x) : spRead W x y = -9223372036854775808 := by
  unfold spRead
  rw [six_n h]
theorem spRead_e (ht : t < 6) (h : (W t).1 = -1) : spRead W (nI t) y = -9223372036854775808 := by
  unfold spRead
  rw [idx_s ht (by decide)]
  exact if_pos h
theorem spRead_p (ht : t < 6) (h2 : y < 0 ∨ nI (W t).2.1 ≤ y) : spRead W (nI t) y = -9223372036854775808 := by
  unfold spRead
  rw [idx_s ht (by decide)]
  by_cases h : (W t).1 = -1
  · exact if_pos h
  · refine (if_neg h).trans ?_
    rw [idx_n h2]
theorem spRead_s (ht : t < 6) (h : ¬ (W t).1 = -1) (h60 : (W t).2.1 ≤ 60) (hi : i < (W t).2.1) : spRead W (nI t) (nI i) = (W t).2.2 i := by
  unfold spRead
  rw [idx_s ht (by decide)]
  refine (if_neg h).trans ?_
  rw [idx_s hi (by omega)]
end SPT

set_option maxHeartbeats 4000000 in
set_option maxRecDepth 100000 in
theorem c_isRow {T : xT} {n : Nat} {sh : Nat → Nat × Nat} {I : xI} {R : xR} {L : xL} {P : xPost} {tp tq : Nat} (hT : sh tp = (0, 8) ∧ R tp 0 = some tq ∧ sh tq = (3, 60)) (K1 : ¬ I tp 1 = -1 → P (n, sh, 0, 0) I R L (some (.int 1))) (K2 : I tp 1 = -1 → P (n, sh, 0, 0) I R L (some (.int 0)))  : XM T zX8_isRow 0 [.ref tp] n sh I R L P := by
  refine x_aload_n (pc := 0) dX8_isRow_0 rfl rfl ?_
  refine x_get (pc := 1) dX8_isRow_1 kf_RX8_15 hT.1 rfl ?_
  refine x_iconst (pc := 4) (v := -1) dX8_isRow_4 (by decide) ?_
  refine x_icmp_eq (pc := 5) (tgt := 12) dX8_isRow_5 (by decide) (fun c5 => ?_) (fun c5 => ?_)
  · skip
    refine x_iconst (pc := 12) (v := 0) dX8_isRow_12 (by decide) ?_
    refine x_ireturn (pc := 13) dX8_isRow_13 ⟨_, rfl, by decide⟩ ⟨Nat.le_refl _, Nat.le_refl _⟩ ?_
    exact K2 c5
  · skip
    refine x_iconst (pc := 8) (v := 1) dX8_isRow_8 (by decide) ?_
    refine x_goto (pc := 9) (tgt := 13) dX8_isRow_9 (by decide) ?_
    refine x_ireturn (pc := 13) dX8_isRow_13 ⟨_, rfl, by decide⟩ ⟨Nat.le_refl _, Nat.le_refl _⟩ ?_
    exact K1 c5

set_option maxHeartbeats 4000000 in
set_option maxRecDepth 100000 in
theorem c_hasPlace {T : xT} {n : Nat} {sh : Nat → Nat × Nat} {I : xI} {R : xR} {L : xL} {P : xPost} {tp tq : Nat} (hT : sh tp = (0, 8) ∧ R tp 0 = some tq ∧ sh tq = (3, 60)) {le : Nat} {x : Int32} (h2 : I tp 2 = nI le) (h60 : le ≤ 60) (K1 : ∀ k, k < le → x = nI k → P (n, sh, 0, 0) I R L (some (.int 1))) (K2 : (x < 0 ∨ nI le ≤ x) → P (n, sh, 0, 0) I R L (some (.int 0)))  : XM T zX8_hasPlace 0 [.ref tp, .int x] n sh I R L P := by
  refine x_iload_n (pc := 0) dX8_hasPlace_0 rfl rfl ?_
  refine x_if_lt (pc := 1) (tgt := 25) dX8_hasPlace_1 (by decide) (fun c1 => ?_) (fun c1 => ?_)
  · skip
    refine x_iconst (pc := 25) (v := 0) dX8_hasPlace_25 (by decide) ?_
    refine x_ireturn (pc := 26) dX8_hasPlace_26 ⟨_, rfl, by decide⟩ ⟨Nat.le_refl _, Nat.le_refl _⟩ ?_
    exact K2 (by first | exact Or.inl c1 | exact Or.inr c9 | exact Or.inr (Int32.le_iff_toInt_le.mpr (by have q := Int32.le_iff_toInt_le.mp c18; have e6 : (60 : Int32).toInt = 60 := rfl; rw [nI_toInt (by omega)]; omega)))
  · skip
    refine x_iload_n (pc := 4) dX8_hasPlace_4 rfl rfl ?_
    refine x_aload_n (pc := 5) dX8_hasPlace_5 rfl rfl ?_
    refine x_get (pc := 6) dX8_hasPlace_6 kf_RX8_19 hT.1 rfl ?_
    rw [h2]
    refine x_icmp_ge (pc := 9) (tgt := 25) dX8_hasPlace_9 (by decide) (fun c9 => ?_) (fun c9 => ?_)
    · skip
      refine x_iconst (pc := 25) (v := 0) dX8_hasPlace_25 (by decide) ?_
      refine x_ireturn (pc := 26) dX8_hasPlace_26 ⟨_, rfl, by decide⟩ ⟨Nat.le_refl _, Nat.le_refl _⟩ ?_
      exact K2 (by first | exact Or.inl c1 | exact Or.inr c9 | exact Or.inr (Int32.le_iff_toInt_le.mpr (by have q := Int32.le_iff_toInt_le.mp c18; have e6 : (60 : Int32).toInt = 60 := rfl; rw [nI_toInt (by omega)]; omega)))
    · skip
      refine x_iload_n (pc := 12) dX8_hasPlace_12 rfl rfl ?_
      refine x_aload_n (pc := 13) dX8_hasPlace_13 rfl rfl ?_
      refine x_getr (pc := 14) dX8_hasPlace_14 kf_RX8_9 hT.1 rfl hT.2.1 ?_
      refine x_alen (pc := 17) (v := 60) dX8_hasPlace_17 hT.2.2 ⟨by decide, by decide⟩ (by decide) ?_
      refine x_icmp_ge (pc := 18) (tgt := 25) dX8_hasPlace_18 (by decide) (fun c18 => ?_) (fun c18 => ?_)
      · skip
        refine x_iconst (pc := 25) (v := 0) dX8_hasPlace_25 (by decide) ?_
        refine x_ireturn (pc := 26) dX8_hasPlace_26 ⟨_, rfl, by decide⟩ ⟨Nat.le_refl _, Nat.le_refl _⟩ ?_
        exact K2 (by first | exact Or.inl c1 | exact Or.inr c9 | exact Or.inr (Int32.le_iff_toInt_le.mpr (by have q := Int32.le_iff_toInt_le.mp c18; have e6 : (60 : Int32).toInt = 60 := rfl; rw [nI_toInt (by omega)]; omega)))
      · skip
        refine x_iconst (pc := 21) (v := 1) dX8_hasPlace_21 (by decide) ?_
        refine x_goto (pc := 22) (tgt := 26) dX8_hasPlace_22 (by decide) ?_
        refine x_ireturn (pc := 26) dX8_hasPlace_26 ⟨_, rfl, by decide⟩ ⟨Nat.le_refl _, Nat.le_refl _⟩ ?_
        obtain ⟨k, hk, ek⟩ := nI_of c1
        exact K1 k (Nat.lt_of_not_le fun q => c9 (by rw [ek]; exact nI_le q hk)) ek

set_option maxHeartbeats 4000000 in
set_option maxRecDepth 100000 in
theorem c_get {T : xT} {n : Nat} {sh : Nat → Nat × Nat} {I : xI} {R : xR} {L : xL} {P : xPost} {tp tq : Nat} (hT : sh tp = (0, 8) ∧ R tp 0 = some tq ∧ sh tq = (3, 60)) {le k : Nat} (h2 : I tp 2 = nI le) (h60 : le ≤ 60) (hk : k < le) (K : P (n, sh, 0, 0) I R L (some (.long (L tq k))))  : XM T zX8_get 1 [.ref tp, .int (nI k)] n sh I R L P := by
  refine x_aload_n (pc := 0) dX8_get_0 rfl rfl ?_
  refine x_iload_n (pc := 1) dX8_get_1 rfl rfl ?_
  refine x_callV (pc := 2) (As := [.int _]) dX8_get_2 km_X8_hasPlace kv_X8_hasPlace kl_RX8_31 hT.1 rfl rfl (by decide) ⟨Nat.le_refl _, Nat.le_refl _⟩ rfl (Nat.le_of_ble_eq_true rfl) (Nat.le_of_ble_eq_true rfl) (c_hasPlace hT h2 h60 (fun k9 hk9 ek9 => ⟨rfl, rfl, ?_⟩) (fun g1 => ⟨rfl, rfl, ?_⟩))
  · skip
    refine x_if_eq_f (pc := 5) (tgt := 17) dX8_get_5 (by decide) (by decide) ?_
    refine x_aload_n (pc := 8) dX8_get_8 rfl rfl ?_
    refine x_getr (pc := 9) dX8_get_9 kf_RX8_9 hT.1 rfl hT.2.1 ?_
    refine x_iload_n (pc := 12) dX8_get_12 rfl rfl ?_
    refine x_laldn (pc := 13) (a := k) dX8_get_13 hT.2.2 (by omega) (by omega) ?_
    refine x_goto (pc := 14) (tgt := 18) dX8_get_14 (by decide) ?_
    refine x_lreturn (pc := 18) dX8_get_18 rfl ⟨Nat.le_refl _, Nat.le_refl _⟩ ?_
    exact K
  · skip
    refine x_if_eq_t (pc := 5) (tgt := 17) dX8_get_5 (by decide) (by decide) ?_
    refine x_lconst (pc := 17) (v := 0) dX8_get_17 (by decide) ?_
    refine x_lreturn (pc := 18) dX8_get_18 rfl ⟨Nat.le_refl _, Nat.le_refl _⟩ ?_
    exact absurd g1 (fun q => q.elim (nI_pos (by omega)) (nI_ge hk (by omega)))

set_option maxHeartbeats 4000000 in
set_option maxRecDepth 100000 in
theorem c_narrowed {T : xT} {n : Nat} {sh : Nat → Nat × Nat} {I : xI} {R : xR} {L : xL} {P : xPost} {tp tq : Nat} (hT : sh tp = (0, 8) ∧ R tp 0 = some tq ∧ sh tq = (3, 60)) {v : Int64} (K : P (n, sh, 0, 0) I R L (some (.long (nar (I tp 1) v))))  : XM T zX8_narrowed 0 [.ref tp, .long v] n sh I R L P := by
  refine x_aload_n (pc := 0) dX8_narrowed_0 rfl rfl ?_
  refine x_get (pc := 1) dX8_narrowed_1 kf_RX8_15 hT.1 rfl ?_
  refine x_tsw (pc := 4) (dt := 66) [(0, 40), (1, 45), (2, 50), (3, 66), (4, 54)] dX8_narrowed_4 (by decide +kernel) (by decide) ?_
  refine xsw_c (fun c4 => ?_) (fun n4_0 => ?_)
  · skip
    refine x_lload_n (pc := 40) dX8_narrowed_40 rfl rfl ?_
    refine x_l2i (pc := 41) dX8_narrowed_41 ?_
    refine x_i2b (pc := 42) dX8_narrowed_42 ?_
    refine x_i2l (pc := 43) dX8_narrowed_43 ?_
    refine x_lreturn (pc := 44) dX8_narrowed_44 rfl ⟨Nat.le_refl _, Nat.le_refl _⟩ ?_
    unfold nar at K
    rw [if_pos c4] at K
    exact K
  refine xsw_c (fun c4 => ?_) (fun n4_1 => ?_)
  · skip
    refine x_lload_n (pc := 45) dX8_narrowed_45 rfl rfl ?_
    refine x_l2i (pc := 46) dX8_narrowed_46 ?_
    refine x_i2s (pc := 47) dX8_narrowed_47 ?_
    refine x_i2l (pc := 48) dX8_narrowed_48 ?_
    refine x_lreturn (pc := 49) dX8_narrowed_49 rfl ⟨Nat.le_refl _, Nat.le_refl _⟩ ?_
    unfold nar at K
    rw [if_neg n4_0, if_pos c4] at K
    exact K
  refine xsw_c (fun c4 => ?_) (fun n4_2 => ?_)
  · skip
    refine x_lload_n (pc := 50) dX8_narrowed_50 rfl rfl ?_
    refine x_l2i (pc := 51) dX8_narrowed_51 ?_
    refine x_i2l (pc := 52) dX8_narrowed_52 ?_
    refine x_lreturn (pc := 53) dX8_narrowed_53 rfl ⟨Nat.le_refl _, Nat.le_refl _⟩ ?_
    unfold nar at K
    rw [if_neg n4_0, if_neg n4_1, if_pos c4] at K
    exact K
  refine xsw_c (fun c4 => ?_) (fun n4_3 => ?_)
  · skip
    refine x_lload_n (pc := 66) dX8_narrowed_66 rfl rfl ?_
    refine x_lreturn (pc := 67) dX8_narrowed_67 rfl ⟨Nat.le_refl _, Nat.le_refl _⟩ ?_
    unfold nar at K
    by_cases q4 : I tp 1 = 4
    · first | exact absurd q4 (by rw [c4]; decide) | exact absurd q4 n4_4
    · rw [if_neg (by first | exact n4_0 | (rw [c4]; decide)), if_neg (by first | exact n4_1 | (rw [c4]; decide)), if_neg (by first | exact n4_2 | (rw [c4]; decide)), if_neg q4] at K
      exact K
  refine xsw_c (fun c4 => ?_) (fun n4_4 => ?_)
  · skip
    refine x_lload_n (pc := 54) dX8_narrowed_54 rfl rfl ?_
    refine x_lconst (pc := 55) (v := 0) dX8_narrowed_55 (by decide) ?_
    refine x_lcmp (pc := 56) dX8_narrowed_56 ?_
    refine x_if_eq (pc := 57) (tgt := 64) dX8_narrowed_57 (by decide) (fun c57 => ?_) (fun c57 => ?_)
    · skip
      refine x_lconst (pc := 64) (v := 0) dX8_narrowed_64 (by decide) ?_
      refine x_lreturn (pc := 65) dX8_narrowed_65 rfl ⟨Nat.le_refl _, Nat.le_refl _⟩ ?_
      unfold nar at K
      rw [if_neg (by rw [c4]; decide), if_neg (by rw [c4]; decide), if_neg (by rw [c4]; decide), if_pos c4] at K
      rw [if_pos c57] at K
      exact K
    · skip
      refine x_lconst (pc := 60) (v := 1) dX8_narrowed_60 (by decide) ?_
      refine x_goto (pc := 61) (tgt := 65) dX8_narrowed_61 (by decide) ?_
      refine x_lreturn (pc := 65) dX8_narrowed_65 rfl ⟨Nat.le_refl _, Nat.le_refl _⟩ ?_
      unfold nar at K
      rw [if_neg (by rw [c4]; decide), if_neg (by rw [c4]; decide), if_neg (by rw [c4]; decide), if_pos c4] at K
      rw [if_neg c57] at K
      exact K
  refine xsw_n ?_
  refine x_lload_n (pc := 66) dX8_narrowed_66 rfl rfl ?_
  refine x_lreturn (pc := 67) dX8_narrowed_67 rfl ⟨Nat.le_refl _, Nat.le_refl _⟩ ?_
  unfold nar at K
  by_cases q4 : I tp 1 = 4
  · first | exact absurd q4 (by rw [c4]; decide) | exact absurd q4 n4_4
  · rw [if_neg (by first | exact n4_0 | (rw [c4]; decide)), if_neg (by first | exact n4_1 | (rw [c4]; decide)), if_neg (by first | exact n4_2 | (rw [c4]; decide)), if_neg q4] at K
    exact K

set_option maxHeartbeats 4000000 in
set_option maxRecDepth 100000 in
theorem c_putT {T : xT} {n : Nat} {sh : Nat → Nat × Nat} {I : xI} {R : xR} {L : xL} {P : xPost} {tp tq : Nat} (hT : sh tp = (0, 8) ∧ R tp 0 = some tq ∧ sh tq = (3, 60)) {le k : Nat} {v : Int64} (h2 : I tp 2 = nI le) (h60 : le ≤ 60) (hk : k < le) (K : P (n, sh, 0, 0) I R (up2 L tq k (nar (I tp 1) v)) none)  : XM T zX8_put 2 [.ref tp, .int (nI k), .long v] n sh I R L P := by
  refine x_aload_n (pc := 0) dX8_put_0 rfl rfl ?_
  refine x_iload_n (pc := 1) dX8_put_1 rfl rfl ?_
  refine x_callV (pc := 2) (As := [.int _]) dX8_put_2 km_X8_hasPlace kv_X8_hasPlace kl_RX8_31 hT.1 rfl rfl (by decide) ⟨Nat.le_refl _, Nat.le_refl _⟩ rfl (Nat.le_of_ble_eq_true rfl) (Nat.le_of_ble_eq_true rfl) (c_hasPlace hT h2 h60 (fun k9 hk9 ek9 => ⟨rfl, rfl, ?_⟩) (fun g1 => ⟨rfl, rfl, ?_⟩))
  · skip
    refine x_if_eq_f (pc := 5) (tgt := 19) dX8_put_5 (by decide) (by decide) ?_
    refine x_aload_n (pc := 8) dX8_put_8 rfl rfl ?_
    refine x_getr (pc := 9) dX8_put_9 kf_RX8_9 hT.1 rfl hT.2.1 ?_
    refine x_iload_n (pc := 12) dX8_put_12 rfl rfl ?_
    refine x_aload_n (pc := 13) dX8_put_13 rfl rfl ?_
    refine x_lload_n (pc := 14) dX8_put_14 rfl rfl ?_
    refine x_callV (pc := 15) (As := [.long _]) dX8_put_15 km_X8_narrowed kv_X8_narrowed kl_RX8_35 hT.1 rfl rfl (by decide) ⟨Nat.le_refl _, Nat.le_refl _⟩ rfl (Nat.le_of_ble_eq_true rfl) (Nat.le_of_ble_eq_true rfl) (c_narrowed hT (⟨rfl, rfl, ?_⟩))
    refine x_lastn (pc := 18) (a := k) dX8_put_18 hT.2.2 (by omega) (by omega) ?_
    refine x_return (pc := 19) dX8_put_19 rfl ⟨Nat.le_refl _, Nat.le_refl _⟩ ?_
    first | exact K | exact absurd g1 (fun q => q.elim (nI_pos (by omega)) (nI_ge hk (by omega)))
  · skip
    refine x_if_eq_t (pc := 5) (tgt := 19) dX8_put_5 (by decide) (by decide) ?_
    refine x_return (pc := 19) dX8_put_19 rfl ⟨Nat.le_refl _, Nat.le_refl _⟩ ?_
    first | exact K | exact absurd g1 (fun q => q.elim (nI_pos (by omega)) (nI_ge hk (by omega)))

set_option maxHeartbeats 4000000 in
set_option maxRecDepth 100000 in
theorem c_empty {T : xT} {n : Nat} {sh : Nat → Nat × Nat} {I : xI} {R : xR} {L : xL} {P : xPost} {tp tq : Nat} (hT : sh tp = (0, 8) ∧ R tp 0 = some tq ∧ sh tq = (3, 60)) (K : P (n, sh, 0, 0) (up2 (up2 I tp 1 (-1)) tp 2 0) R L none)  : XM T zX8_empty 0 [.ref tp] n sh I R L P := by
  refine x_aload_n (pc := 0) dX8_empty_0 rfl rfl ?_
  refine x_iconst (pc := 1) (v := -1) dX8_empty_1 (by decide) ?_
  refine x_put (pc := 2) dX8_empty_2 kf_RX8_15 hT.1 rfl (Or.inl kb_8_1) ?_
  refine x_aload_n (pc := 5) dX8_empty_5 rfl rfl ?_
  refine x_iconst (pc := 6) (v := 0) dX8_empty_6 (by decide) ?_
  refine x_put (pc := 7) dX8_empty_7 kf_RX8_19 hT.1 rfl (Or.inl kb_8_2) ?_
  refine x_return (pc := 10) dX8_empty_10 rfl ⟨Nat.le_refl _, Nat.le_refl _⟩ ?_
  exact K

def zrL (L : xL) (q m : Nat) : xL := fun a i => if a = q ∧ i < m then 0 else L a i
theorem zrL_0 {L : xL} {q : Nat} : zrL L q 0 = L := by
  funext a i
  exact if_neg (fun h => absurd h.2 (by omega))
theorem zrL_s {L : xL} {q m : Nat} : up2 (zrL L q m) q m 0 = zrL L q (m + 1) := by
  funext a i
  unfold up2 zrL
  by_cases h : a = q ∧ i = m
  · rw [if_pos h, if_pos ⟨h.1, by omega⟩]
  · rw [if_neg h]
    by_cases h2 : a = q ∧ i < m
    · rw [if_pos h2, if_pos ⟨h2.1, by omega⟩]
    · rw [if_neg h2, if_neg (fun p => by
        rcases Nat.lt_succ_iff_lt_or_eq.mp p.2 with e | e
        · exact h2 ⟨p.1, e⟩
        · exact h ⟨p.1, e⟩)]

set_option maxHeartbeats 4000000 in
set_option maxRecDepth 100000 in
theorem l_become {T : xT} {n : Nat} {sh : Nat → Nat × Nat} {I : xI} {R : xR} {L : xL} {P : xPost} {tp tq : Nat} (hT : sh tp = (0, 8) ∧ R tp 0 = some tq ∧ sh tq = (3, 60)) {s : Int32} {m : Nat} (K : P (n, sh, 0, 0) I R (zrL L tq 60) none)  : ∀ (w i : Nat), i + w = 60 → X T zX8_become 1 0 0 P 21 [(0, .ref tp), (1, .int s), (2, .int (nI m)), (3, .int (nI i))] [] (n, sh, 0, 0) (I) R (zrL L tq i) := by
  intro w
  induction w with
  | zero =>
    intro i hw
    have hz : i = 60 := by omega
    refine x_iload_n (pc := 21) dX8_become_21 rfl rfl ?_
    refine x_aload_n (pc := 22) dX8_become_22 rfl rfl ?_
    refine x_getr (pc := 23) dX8_become_23 kf_RX8_9 hT.1 rfl hT.2.1 ?_
    refine x_alen (pc := 26) (v := 60) dX8_become_26 hT.2.2 ⟨by decide, by decide⟩ (by decide) ?_
    refine x_icmpn_ge_t (pc := 27) (tgt := 43) (a := i) (b := 60) dX8_become_27 (by decide) (by omega) (by decide) (by omega) ?_
    refine x_return (pc := 43) dX8_become_43 rfl ⟨Nat.le_refl _, Nat.le_refl _⟩ ?_
    rw [hz]
    exact K
  | succ w ih =>
    intro i hw
    have hi : i < 60 := by omega
    refine x_iload_n (pc := 21) dX8_become_21 rfl rfl ?_
    refine x_aload_n (pc := 22) dX8_become_22 rfl rfl ?_
    refine x_getr (pc := 23) dX8_become_23 kf_RX8_9 hT.1 rfl hT.2.1 ?_
    refine x_alen (pc := 26) (v := 60) dX8_become_26 hT.2.2 ⟨by decide, by decide⟩ (by decide) ?_
    refine x_icmpn_ge_f (pc := 27) (tgt := 43) (a := i) (b := 60) dX8_become_27 (by decide) (by omega) (by decide) (by omega) ?_
    refine x_aload_n (pc := 30) dX8_become_30 rfl rfl ?_
    refine x_getr (pc := 31) dX8_become_31 kf_RX8_9 hT.1 rfl hT.2.1 ?_
    refine x_iload_n (pc := 34) dX8_become_34 rfl rfl ?_
    refine x_lconst (pc := 35) (v := 0) dX8_become_35 (by decide) ?_
    refine x_lastn (pc := 36) (a := i) dX8_become_36 hT.2.2 (by omega) (by omega) ?_
    refine x_iinc (pc := 37) (v := nI (i + 1)) (lv' := [(0, .ref tp), (1, .int s), (2, .int (nI m)), (3, .int (nI (i + 1)))]) dX8_become_37 rfl (nI_1 _) (by decide) rfl ?_
    refine x_goto (pc := 40) (tgt := 21) dX8_become_40 (by decide) ?_
    rw [zrL_s]
    exact ih (i + 1) (by omega)

set_option maxHeartbeats 4000000 in
set_option maxRecDepth 100000 in
theorem c_become {T : xT} {n : Nat} {sh : Nat → Nat × Nat} {I : xI} {R : xR} {L : xL} {P : xPost} {tp tq : Nat} (hT : sh tp = (0, 8) ∧ R tp 0 = some tq ∧ sh tq = (3, 60)) {s : Int32} {m : Nat} (hm : m ≤ 60) (K : P (n, sh, 0, 0) (up2 (up2 I tp 1 s) tp 2 (nI m)) R (zrL L tq 60) none)  : XM T zX8_become 1 [.ref tp, .int s, .int (nI m)] n sh I R L P := by
  refine x_aload_n (pc := 0) dX8_become_0 rfl rfl ?_
  refine x_iload_n (pc := 1) dX8_become_1 rfl rfl ?_
  refine x_put (pc := 2) dX8_become_2 kf_RX8_15 hT.1 rfl (Or.inl kb_8_1) ?_
  refine x_aload_n (pc := 5) dX8_become_5 rfl rfl ?_
  refine x_iconst (pc := 6) (v := 0) dX8_become_6 (by decide) ?_
  refine x_iload_n (pc := 7) dX8_become_7 rfl rfl ?_
  refine x_bipush (pc := 8) (v := 60) dX8_become_8 (by decide) ?_
  refine x_min (pc := 10) (by decide) ⟨Nat.le_refl _, Nat.le_refl _⟩ kw_min kl_RX8_22 dX8_become_10 (Nat.le_of_ble_eq_true rfl) ?_
  refine x_max (pc := 13) (by decide) ⟨Nat.le_refl _, Nat.le_refl _⟩ kw_max kl_RX8_28 dX8_become_13 (Nat.le_of_ble_eq_true rfl) ?_
  rw [show (if (60 : Int32) < nI m then (60 : Int32) else nI m) = nI m from if_neg (fun q => absurd ((nI_ltI (a := 60) (b := m) (by decide) (by omega)).mp q) (by omega)), show (if (0 : Int32) < nI m then nI m else 0) = nI m from by by_cases q : (0 : Int32) < nI m; exact if_pos q; rw [if_neg q]; rcases Nat.eq_zero_or_pos m with z | z; rw [z]; rfl; exact absurd ((nI_ltI (a := 0) (by decide) (by omega)).mpr z) q]
  refine x_put (pc := 16) dX8_become_16 kf_RX8_19 hT.1 rfl (Or.inl kb_8_2) ?_
  refine x_iconst (pc := 19) (v := 0) dX8_become_19 (by decide) ?_
  refine x_istore_n (pc := 20) (lv' := [(0, .ref tp), (1, .int s), (2, .int (nI m)), (3, .int 0)]) dX8_become_20 rfl (by decide) rfl ?_
  have h9 := l_become (T := T) (s := s) (m := m) hT K 60 0 (by omega)
  rw [zrL_0] at h9
  exact h9

set_option maxHeartbeats 4000000 in
set_option maxRecDepth 100000 in
theorem c_hasPart {T : xT} {n : Nat} {sh : Nat → Nat × Nat} {I : xI} {R : xR} {L : xL} {P : xPost} {tp tq : Nat} (hT : sh tp = (0, 8) ∧ R tp 0 = some tq ∧ sh tq = (3, 60)) {le : Nat} {x y : Int32} (h2 : I tp 2 = nI le) (h60 : le ≤ 60) (K1 : ∀ i m, x = nI i → y = nI m → i + m ≤ le → P (n, sh, 0, 0) I R L (some (.int 1))) (K2 : ¬ prt le x y → P (n, sh, 0, 0) I R L (some (.int 0)))  : XM T zX8_hasPart 0 [.ref tp, .int x, .int y] n sh I R L P := by
  refine x_iload_n (pc := 0) dX8_hasPart_0 rfl rfl ?_
  refine x_if_lt (pc := 1) (tgt := 30) dX8_hasPart_1 (by decide) (fun c1 => ?_) (fun c1 => ?_)
  · skip
    refine x_iconst (pc := 30) (v := 0) dX8_hasPart_30 (by decide) ?_
    refine x_ireturn (pc := 31) dX8_hasPart_31 ⟨_, rfl, by decide⟩ ⟨Nat.le_refl _, Nat.le_refl _⟩ ?_
    refine K2 (fun ⟨a, b, ea, eb, hab⟩ => ?_)
    first | exact absurd c1 (by rw [ea]; exact nI_pos (by omega)) | exact absurd c5 (by rw [eb]; exact nI_pos (by omega)) | (have e1 := (nI_eq hi (by omega)).mp ea; have e2 := (nI_eq hm (by omega)).mp eb; omega)
  · skip
    refine x_iload_n (pc := 4) dX8_hasPart_4 rfl rfl ?_
    refine x_if_lt (pc := 5) (tgt := 30) dX8_hasPart_5 (by decide) (fun c5 => ?_) (fun c5 => ?_)
    · skip
      refine x_iconst (pc := 30) (v := 0) dX8_hasPart_30 (by decide) ?_
      refine x_ireturn (pc := 31) dX8_hasPart_31 ⟨_, rfl, by decide⟩ ⟨Nat.le_refl _, Nat.le_refl _⟩ ?_
      refine K2 (fun ⟨a, b, ea, eb, hab⟩ => ?_)
      first | exact absurd c1 (by rw [ea]; exact nI_pos (by omega)) | exact absurd c5 (by rw [eb]; exact nI_pos (by omega)) | (have e1 := (nI_eq hi (by omega)).mp ea; have e2 := (nI_eq hm (by omega)).mp eb; omega)
    · skip
      obtain ⟨i, hi, ei⟩ := nI_of c1
      obtain ⟨m, hm, em⟩ := nI_of c5
      subst ei em
      refine x_iload_n (pc := 8) dX8_hasPart_8 rfl rfl ?_
      refine x_aload_n (pc := 9) dX8_hasPart_9 rfl rfl ?_
      refine x_get (pc := 10) dX8_hasPart_10 kf_RX8_19 hT.1 rfl ?_
      rw [h2]
      refine x_icmpn_gt (pc := 13) (tgt := 30) (a := i) (b := le) dX8_hasPart_13 (by decide) (by omega) (by omega) (fun c13 => ?_) (fun c13 => ?_)
      · skip
        refine x_iconst (pc := 30) (v := 0) dX8_hasPart_30 (by decide) ?_
        refine x_ireturn (pc := 31) dX8_hasPart_31 ⟨_, rfl, by decide⟩ ⟨Nat.le_refl _, Nat.le_refl _⟩ ?_
        refine K2 (fun ⟨a, b, ea, eb, hab⟩ => ?_)
        first | exact absurd c1 (by rw [ea]; exact nI_pos (by omega)) | exact absurd c5 (by rw [eb]; exact nI_pos (by omega)) | (have e1 := (nI_eq hi (by omega)).mp ea; have e2 := (nI_eq hm (by omega)).mp eb; omega)
      · skip
        refine x_iload_n (pc := 16) dX8_hasPart_16 rfl rfl ?_
        refine x_aload_n (pc := 17) dX8_hasPart_17 rfl rfl ?_
        refine x_get (pc := 18) dX8_hasPart_18 kf_RX8_19 hT.1 rfl ?_
        rw [h2]
        refine x_iload_n (pc := 21) dX8_hasPart_21 rfl rfl ?_
        refine x_isubn (pc := 22) (a := le) (b := i) dX8_hasPart_22 (by omega) ?_
        refine x_icmpn_gt (pc := 23) (tgt := 30) (a := m) (b := (le - i)) dX8_hasPart_23 (by decide) (by omega) (by omega) (fun c23 => ?_) (fun c23 => ?_)
        · skip
          refine x_iconst (pc := 30) (v := 0) dX8_hasPart_30 (by decide) ?_
          refine x_ireturn (pc := 31) dX8_hasPart_31 ⟨_, rfl, by decide⟩ ⟨Nat.le_refl _, Nat.le_refl _⟩ ?_
          refine K2 (fun ⟨a, b, ea, eb, hab⟩ => ?_)
          first | exact absurd c1 (by rw [ea]; exact nI_pos (by omega)) | exact absurd c5 (by rw [eb]; exact nI_pos (by omega)) | (have e1 := (nI_eq hi (by omega)).mp ea; have e2 := (nI_eq hm (by omega)).mp eb; omega)
        · skip
          refine x_iconst (pc := 26) (v := 1) dX8_hasPart_26 (by decide) ?_
          refine x_goto (pc := 27) (tgt := 31) dX8_hasPart_27 (by decide) ?_
          refine x_ireturn (pc := 31) dX8_hasPart_31 ⟨_, rfl, by decide⟩ ⟨Nat.le_refl _, Nat.le_refl _⟩ ?_
          exact K1 i m rfl rfl (by omega)

