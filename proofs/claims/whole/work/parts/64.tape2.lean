/-! ===== tapes: the public methods, class ===== -/
def part (le : Nat) (x n : Int32) : Option (Nat × Nat) := if x < 0 ∨ n < 0 then none else if x.toNatClampNeg + n.toNatClampNeg ≤ le then some (x.toNatClampNeg, n.toNatClampNeg) else none
theorem part_s {le i m : Nat} (h : i + m ≤ le) (h60 : le ≤ 60) : part le (nI i) (nI m) = some (i, m) := by
  unfold part
  rw [if_neg (fun q => q.elim (nI_pos (by omega)) (nI_pos (by omega))), nI_clamp (by omega), nI_clamp (by omega), if_pos h]
theorem part_n {le : Nat} {x n : Int32} (h : ¬ prt le x n) : part le x n = none := by
  unfold part
  by_cases q : x < 0 ∨ n < 0
  · exact if_pos q
  · rw [if_neg q]
    obtain ⟨i, hi, rfl⟩ := nI_of (fun z => q (Or.inl z))
    obtain ⟨m, hm, rfl⟩ := nI_of (fun z => q (Or.inr z))
    rw [nI_clamp hi, nI_clamp hm]
    exact if_neg (fun z => h ⟨i, m, rfl, rfl, z⟩)
def shW (W : xW) (s g a b m : Nat) : xW := setT W g ((W g).1, (W g).2.1, va_cpy (W s).2.2 (W g).2.2 a b m)
def spShift (W : xW) (x i y j n : Int32) : Int32 × xW := match idx 6 x with
  | none => (-1, W)
  | some s => match idx 6 y with
    | none => (-1, W)
    | some g => if (W s).1 = -1 ∨ (W g).1 = -1 then (-11, W) else if (W s).1 = (W g).1 then (match part (W s).2.1 i n with
      | none => (-13, W)
      | some p => match part (W g).2.1 j n with
        | none => (-13, W)
        | some q => (n, shW W s g p.1 q.1 p.2)) else (-12, W)
section SPSH
variable {W : xW} {x y z u v : Int32} {s g a b m : Nat}
theorem spSh_1 (h : x < 0 ∨ nI 6 ≤ x) : spShift W x z y u v = (-1, W) := by
  unfold spShift
  rw [idx_n h]
theorem spSh_2 (h : y < 0 ∨ nI 6 ≤ y) : spShift W x z y u v = (-1, W) := by
  unfold spShift
  cases idx 6 x with
  | none => rfl
  | some s =>
    show (match idx 6 y with | none => _ | some g => _) = _
    rw [idx_n h]
theorem spSh_0 (hs : s < 6) (hg : g < 6) : spShift W (nI s) z (nI g) u v = if (W s).1 = -1 ∨ (W g).1 = -1 then (-11, W) else if (W s).1 = (W g).1 then (match part (W s).2.1 z v with
      | none => (-13, W)
      | some p => match part (W g).2.1 u v with
        | none => (-13, W)
        | some q => (v, shW W s g p.1 q.1 p.2)) else (-12, W) := by
  unfold spShift
  rw [idx_s hs (by decide)]
  show (match idx 6 (nI g) with | none => _ | some g => _) = _
  rw [idx_s hg (by decide)]
theorem spSh_e (hs : s < 6) (hg : g < 6) (h : (W s).1 = -1 ∨ (W g).1 = -1) : spShift W (nI s) z (nI g) u v = (-11, W) := (spSh_0 hs hg).trans (if_pos h)
theorem spSh_c (hs : s < 6) (hg : g < 6) (h1 : ¬ (W s).1 = -1) (h2 : ¬ (W g).1 = -1) (h : ¬ (W s).1 = (W g).1) : spShift W (nI s) z (nI g) u v = (-12, W) := (spSh_0 hs hg).trans ((if_neg (fun q => q.elim h1 h2)).trans (if_neg h))
theorem spSh_p (hs : s < 6) (hg : g < 6) (h1 : ¬ (W s).1 = -1) (h2 : ¬ (W g).1 = -1) (h : (W s).1 = (W g).1) (hp : ¬ prt (W s).2.1 z v ∨ ¬ prt (W g).2.1 u v) : spShift W (nI s) z (nI g) u v = (-13, W) := by
  refine (spSh_0 hs hg).trans ((if_neg (fun q => q.elim h1 h2)).trans ((if_pos h).trans ?_))
  rcases hp with hp | hp
  · rw [part_n hp]
  · cases part (W s).2.1 z v with
    | none => rfl
    | some p =>
      show (match part (W g).2.1 u v with | none => _ | some q => _) = _
      rw [part_n hp]
theorem spSh_s (hs : s < 6) (hg : g < 6) (h1 : ¬ (W s).1 = -1) (h2 : ¬ (W g).1 = -1) (h : (W s).1 = (W g).1) (k1 : (W s).2.1 ≤ 60) (k2 : (W g).2.1 ≤ 60) (ha : a + m ≤ (W s).2.1) (hb : b + m ≤ (W g).2.1) : spShift W (nI s) (nI a) (nI g) (nI b) (nI m) = (nI m, shW W s g a b m) := by
  refine (spSh_0 hs hg).trans ((if_neg (fun q => q.elim h1 h2)).trans ((if_pos h).trans ?_))
  rw [part_s ha k1]
  show (match part (W g).2.1 (nI b) (nI m) with | none => _ | some q => _) = _
  rw [part_s hb k2]
end SPSH
/-- judge -/
def jpl (z : Int32 × Nat × (Nat → Int64)) (i : Int32) (b : Nat) : Option Int64 := if i < 0 then none else if i.toNatClampNeg + b < z.2.1 then some (z.2.2 (i.toNatClampNeg + b)) else none
def jdW (z : Int32 × Nat × (Nat → Int64)) (i : Int32) (ce : Nat → Nat) : Nat → Nat → Int32
  | 0, _ => -5
  | w + 1, b => match jpl z i b with
    | none => nI (100 + b)
    | some v => if v = (nI (ce b)).toInt64 then jdW z i ce w (b + 1) else nI b
theorem jdW_n {z : Int32 × Nat × (Nat → Int64)} {i : Int32} {ce : Nat → Nat} {w b : Nat} (h : jpl z i b = none) : jdW z i ce (w + 1) b = nI (100 + b) := by
  show (match jpl z i b with | none => _ | some v => _) = _
  rw [h]
theorem jdW_e {z : Int32 × Nat × (Nat → Int64)} {i : Int32} {ce : Nat → Nat} {w b : Nat} {v : Int64} (h : jpl z i b = some v) (h2 : v = (nI (ce b)).toInt64) : jdW z i ce (w + 1) b = jdW z i ce w (b + 1) := by
  show (match jpl z i b with | none => _ | some v => _) = _
  rw [h]
  exact if_pos h2
theorem jdW_u {z : Int32 × Nat × (Nat → Int64)} {i : Int32} {ce : Nat → Nat} {w b : Nat} {v : Int64} (h : jpl z i b = some v) (h2 : ¬ v = (nI (ce b)).toInt64) : jdW z i ce (w + 1) b = nI b := by
  show (match jpl z i b with | none => _ | some v => _) = _
  rw [h]
  exact if_neg h2
theorem jpl_neg {z : Int32 × Nat × (Nat → Int64)} {i : Int32} {b : Nat} (h : i < 0) : jpl z i b = none := if_pos h
theorem jpl_s {z : Int32 × Nat × (Nat → Int64)} {k b : Nat} (hk : k < 2 ^ 31) (h : k + b < z.2.1) : jpl z (nI k) b = some (z.2.2 (k + b)) := by
  unfold jpl
  rw [if_neg (nI_pos hk), nI_clamp hk, if_pos h]
theorem jpl_n {z : Int32 × Nat × (Nat → Int64)} {k b : Nat} (hk : k < 2 ^ 31) (h : ¬ k + b < z.2.1) : jpl z (nI k) b = none := by
  unfold jpl
  rw [if_neg (nI_pos hk), nI_clamp hk, if_neg h]
def spJudge (V : xV) (o : Option xAR) (W : xW) (x i n : Int32) : Int32 := match idx 6 x with
  | none => -1
  | some t => if n < 0 ∨ 60 < n then -2 else if (W t).1 = -1 ∨ (W t).1 = 0 then jdW (W t) i (goF V o (V 8 1) n.toNatClampNeg) (V 8 0) 0 else -12
section SPJ
variable {V : xV} {o : Option xAR} {W : xW} {x i n : Int32} {t m : Nat}
theorem spJ_n (h : x < 0 ∨ nI 6 ≤ x) : spJudge V o W x i n = -1 := by
  unfold spJudge
  rw [idx_n h]
theorem spJ_b (ht : t < 6) (h : n < 0 ∨ 60 < n) : spJudge V o W (nI t) i n = -2 := by
  unfold spJudge
  rw [idx_s ht (by decide)]
  exact if_pos h
theorem m60 (hm : m ≤ 60) : ¬ (nI m < 0 ∨ 60 < nI m) := fun q => q.elim (nI_pos (by omega)) (fun q => absurd ((nI_ltI (a := 60) (by decide) (by omega)).mp q) (by omega))
theorem spJ_c (ht : t < 6) (hm : m ≤ 60) (h1 : ¬ (W t).1 = -1) (h0 : ¬ (W t).1 = 0) : spJudge V o W (nI t) i (nI m) = -12 := by
  unfold spJudge
  rw [idx_s ht (by decide)]
  exact (if_neg (m60 hm)).trans (if_neg (fun q => q.elim h1 h0))
theorem spJ_s (ht : t < 6) (hm : m ≤ 60) (h : (W t).1 = -1 ∨ (W t).1 = 0) : spJudge V o W (nI t) i (nI m) = jdW (W t) i (goF V o (V 8 1) m) (V 8 0) 0 := by
  unfold spJudge
  rw [idx_s ht (by decide)]
  refine (if_neg (m60 hm)).trans ((if_pos h).trans ?_)
  rw [nI_clamp (by omega)]
theorem i60_k {x : Int32} (h1 : ¬ x < 0) (h2 : ¬ 60 < x) : ∃ k : Nat, k ≤ 60 ∧ x = nI k := by
  obtain ⟨j, hj, rfl⟩ := nI_of h1
  refine ⟨j, ?_, rfl⟩
  rcases Nat.lt_or_ge 60 j with h | h
  · exact absurd ((nI_ltI (a := 60) (by decide) hj).mpr h) h2
  · exact h
end SPJ

set_option maxHeartbeats 4000000 in
set_option maxRecDepth 100000 in
theorem c_tapeAt {T : xT} {n : Nat} {sh : Nat → Nat × Nat} {I : xI} {R : xR} {L : xL} {P : xPost} {lr nw im tr rd hu se ac M : Nat} (hG : GEO sh R lr nw im tr rd hu se ac M) {x : Int32} (K1 : ∀ k, k < 6 → x = nI k → P (n, sh, 0, 0) I R L (some (.ref (125 + 2 * k)))) (K2 : (x < 0 ∨ nI 6 ≤ x) → P (n, sh, 0, 0) I R L (some .null))  : XM T zX9_tapeAt 0 [.ref lr, .int x] n sh I R L P := by
  refine x_iload_n (pc := 0) dX9_tapeAt_0 rfl rfl ?_
  refine x_if_lt (pc := 1) (tgt := 28) dX9_tapeAt_1 (by decide) (fun c1 => ?_) (fun c1 => ?_)
  · skip
    refine x_null (pc := 28) dX9_tapeAt_28 ?_
    refine x_areturnN (pc := 29) dX9_tapeAt_29 ⟨_, rfl⟩ ⟨Nat.le_refl _, Nat.le_refl _⟩ ?_
    exact K2 (by first | exact Or.inl c1 | exact Or.inr (nI_le c7 hk9) | exact Or.inr (nI_le c16 hk9))
  · skip
    obtain ⟨k, hk9, ek⟩ := nI_of c1
    subst ek
    refine x_iload_n (pc := 4) dX9_tapeAt_4 rfl rfl ?_
    refine x_bipush (pc := 5) (v := 6) dX9_tapeAt_5 (by decide) ?_
    refine x_icmpn_ge (pc := 7) (tgt := 28) (a := k) (b := 6) dX9_tapeAt_7 (by decide) (by omega) (by decide) (fun c7 => ?_) (fun c7 => ?_)
    · skip
      refine x_null (pc := 28) dX9_tapeAt_28 ?_
      refine x_areturnN (pc := 29) dX9_tapeAt_29 ⟨_, rfl⟩ ⟨Nat.le_refl _, Nat.le_refl _⟩ ?_
      exact K2 (by first | exact Or.inl c1 | exact Or.inr (nI_le c7 hk9) | exact Or.inr (nI_le c16 hk9))
    · skip
      refine x_iload_n (pc := 10) dX9_tapeAt_10 rfl rfl ?_
      refine x_aload_n (pc := 11) dX9_tapeAt_11 rfl rfl ?_
      refine x_getr (pc := 12) dX9_tapeAt_12 kf_RX9_68 hG.g_x rfl hG.g_f10 ?_
      refine x_alen (pc := 15) (v := 6) dX9_tapeAt_15 hG.g_ta ⟨by decide, by decide⟩ (by decide) ?_
      refine x_icmpn_ge (pc := 16) (tgt := 28) (a := k) (b := 6) dX9_tapeAt_16 (by decide) (by omega) (by decide) (fun c16 => ?_) (fun c16 => ?_)
      · skip
        refine x_null (pc := 28) dX9_tapeAt_28 ?_
        refine x_areturnN (pc := 29) dX9_tapeAt_29 ⟨_, rfl⟩ ⟨Nat.le_refl _, Nat.le_refl _⟩ ?_
        exact K2 (by first | exact Or.inl c1 | exact Or.inr (nI_le c7 hk9) | exact Or.inr (nI_le c16 hk9))
      · skip
        have hk : k < 6 := c7
        refine x_aload_n (pc := 19) dX9_tapeAt_19 rfl rfl ?_
        refine x_getr (pc := 20) dX9_tapeAt_20 kf_RX9_68 hG.g_x rfl hG.g_f10 ?_
        refine x_iload_n (pc := 23) dX9_tapeAt_23 rfl rfl ?_
        refine x_aaldn (pc := 24) (a := k) dX9_tapeAt_24 hG.g_ta (Or.inr rfl) (by omega) (by omega) (hG.g_ti k hk) ?_
        refine x_goto (pc := 25) (tgt := 29) dX9_tapeAt_25 (by decide) ?_
        refine x_areturn (pc := 29) dX9_tapeAt_29 ⟨_, rfl⟩ ⟨Nat.le_refl _, Nat.le_refl _⟩ ?_
        exact K1 k hk rfl

set_option maxHeartbeats 4000000 in
set_option maxRecDepth 100000 in
theorem c_takeFrom {T : xT} {n : Nat} {sh : Nat → Nat × Nat} {I : xI} {R : xR} {L : xL} {P : xPost} {tp tq : Nat} (hT : sh tp = (0, 8) ∧ R tp 0 = some tq ∧ sh tq = (3, 60)) {sp sq : Nat} (hS : sh sp = (0, 8) ∧ R sp 0 = some sq ∧ sh sq = (3, 60)) {i j m ls lt : Nat} (hs : I sp 2 = nI ls) (ht : I tp 2 = nI lt) (hl : ls ≤ 60 ∧ lt ≤ 60) (ha : i + m ≤ ls) (hb : j + m ≤ lt) (K : P (n, sh, 0, 0) I R (fun a => if a = tq then va_cpy (L sq) (L tq) i j m else L a) none)  : XM T zX8_takeFrom 1 [.ref tp, .ref sp, .int (nI i), .int (nI j), .int (nI m)] n sh I R L P := by
  refine x_aload_n (pc := 0) dX8_takeFrom_0 rfl rfl ?_
  refine x_iload_n (pc := 1) dX8_takeFrom_1 rfl rfl ?_
  refine x_iload (pc := 2) dX8_takeFrom_2 rfl ?_
  refine x_callV (pc := 4) (As := [.int _, .int _]) dX8_takeFrom_4 km_X8_hasPart kv_X8_hasPart kl_RX8_39 hS.1 rfl rfl (by decide) ⟨Nat.le_refl _, Nat.le_refl _⟩ rfl (Nat.le_of_ble_eq_true rfl) (Nat.le_of_ble_eq_true rfl) (c_hasPart hS hs hl.1 (fun i1 m1 e1 f1 g1 => ⟨rfl, rfl, ?_⟩) (fun n1 => ⟨rfl, rfl, ?_⟩))
  · skip
    refine x_if_eq_f (pc := 7) (tgt := 35) dX8_takeFrom_7 (by decide) (by decide) ?_
    refine x_aload_n (pc := 10) dX8_takeFrom_10 rfl rfl ?_
    refine x_iload_n (pc := 11) dX8_takeFrom_11 rfl rfl ?_
    refine x_iload (pc := 12) dX8_takeFrom_12 rfl ?_
    refine x_callV (pc := 14) (As := [.int _, .int _]) dX8_takeFrom_14 km_X8_hasPart kv_X8_hasPart kl_RX8_39 hT.1 rfl rfl (by decide) ⟨Nat.le_refl _, Nat.le_refl _⟩ rfl (Nat.le_of_ble_eq_true rfl) (Nat.le_of_ble_eq_true rfl) (c_hasPart hT ht hl.2 (fun i2 m2 e2 f2 g2 => ⟨rfl, rfl, ?_⟩) (fun n2 => ⟨rfl, rfl, ?_⟩))
    · skip
      refine x_if_eq_f (pc := 17) (tgt := 35) dX8_takeFrom_17 (by decide) (by decide) ?_
      refine x_aload_n (pc := 20) dX8_takeFrom_20 rfl rfl ?_
      refine x_getr (pc := 21) dX8_takeFrom_21 kf_RX8_9 hS.1 rfl hS.2.1 ?_
      refine x_iload_n (pc := 24) dX8_takeFrom_24 rfl rfl ?_
      refine x_aload_n (pc := 25) dX8_takeFrom_25 rfl rfl ?_
      refine x_getr (pc := 26) dX8_takeFrom_26 kf_RX8_9 hT.1 rfl hT.2.1 ?_
      refine x_iload_n (pc := 29) dX8_takeFrom_29 rfl rfl ?_
      refine x_iload (pc := 30) dX8_takeFrom_30 rfl ?_
      refine x_copyl (pc := 32) (by decide) kl_RX8_43 kw_copy hS.2.2 hT.2.2 (nI_pos (by omega)) (nI_pos (by omega)) (nI_pos (by omega)) (by rw [nI_clamp (by omega), nI_clamp (by omega)]; omega) (by rw [nI_clamp (by omega), nI_clamp (by omega)]; omega) dX8_takeFrom_32 (Nat.le_of_ble_eq_true rfl) ?_
      refine x_return (pc := 35) dX8_takeFrom_35 rfl ⟨Nat.le_refl _, Nat.le_refl _⟩ ?_
      first | (rw [nI_clamp (by omega), nI_clamp (by omega), nI_clamp (by omega)]; exact K) | exact absurd ⟨i, m, rfl, rfl, ha⟩ n1 | exact absurd ⟨j, m, rfl, rfl, hb⟩ n2
    · skip
      refine x_if_eq_t (pc := 17) (tgt := 35) dX8_takeFrom_17 (by decide) (by decide) ?_
      refine x_return (pc := 35) dX8_takeFrom_35 rfl ⟨Nat.le_refl _, Nat.le_refl _⟩ ?_
      first | (rw [nI_clamp (by omega), nI_clamp (by omega), nI_clamp (by omega)]; exact K) | exact absurd ⟨i, m, rfl, rfl, ha⟩ n1 | exact absurd ⟨j, m, rfl, rfl, hb⟩ n2
  · skip
    refine x_if_eq_t (pc := 7) (tgt := 35) dX8_takeFrom_7 (by decide) (by decide) ?_
    refine x_return (pc := 35) dX8_takeFrom_35 rfl ⟨Nat.le_refl _, Nat.le_refl _⟩ ?_
    first | (rw [nI_clamp (by omega), nI_clamp (by omega), nI_clamp (by omega)]; exact K) | exact absurd ⟨i, m, rfl, rfl, ha⟩ n1 | exact absurd ⟨j, m, rfl, rfl, hb⟩ n2

theorem s5_k {x : Int32} (h1 : ¬ x < 0) (h2 : ¬ 4 < x) : ∃ k : Nat, k < 5 ∧ x = nI k := by
  obtain ⟨j, hj, rfl⟩ := nI_of h1
  refine ⟨j, ?_, rfl⟩
  rcases Nat.lt_or_ge j 5 with h | h
  · exact h
  · exact absurd ((nI_ltI (a := 4) (by decide) hj).mpr (by omega)) h2

set_option maxHeartbeats 4000000 in
set_option maxRecDepth 100000 in
theorem c_tapeIt {T : xT} {n : Nat} {sh : Nat → Nat × Nat} {I : xI} {R : xR} {L : xL} {P : xPost} {lr nw im tr rd hu se ac M : Nat} (hG : GEO sh R lr nw im tr rd hu se ac M) {W : xW} (hw : TPC I L W) (ho : TOK W) {x s y : Int32} (K : ∀ (I2 : xI) (L2 : xL), TPC I2 L2 (spTape W x s y).2 → (∀ a, (a < 125 ∨ 137 ≤ a) → I2 a = I a) → (∀ a, (a < 125 ∨ 137 ≤ a) → L2 a = L a) → P (n, sh, 0, 0) I2 R L2 (some (.int (spTape W x s y).1)))  : XM T zX9_tape 2 [.ref lr, .int x, .int s, .int y] n sh I R L P := by
  refine x_aload_n (pc := 0) dX9_tape_0 rfl rfl ?_
  refine x_iload_n (pc := 1) dX9_tape_1 rfl rfl ?_
  refine x_callV (pc := 2) (As := [.int _]) dX9_tape_2 km_X9_tapeAt kv_X9_tapeAt kl_RX9_286 hG.g_x rfl rfl (by decide) ⟨Nat.le_refl _, Nat.le_refl _⟩ rfl (Nat.le_of_ble_eq_true rfl) (Nat.le_of_ble_eq_true rfl) (c_tapeAt hG (fun t ht et => ⟨rfl, rfl, ?_⟩) (fun h1 => ⟨rfl, rfl, ?_⟩))
  · skip
    subst et
    have hTt := hG.g_ts t ht
    obtain ⟨wt1, wt2, wt3⟩ := hw t ht
    obtain ⟨ot1, ot2⟩ := ho t ht
    refine x_astore (pc := 5) (lv' := [(0, .ref lr), (1, .int (nI t)), (2, .int s), (3, .int y), (4, .ref (125 + 2 * t))]) dX9_tape_5 (by decide) rfl ?_
    refine x_aload (pc := 7) dX9_tape_7 rfl ?_
    refine x_ifnonnull (pc := 9) (tgt := 14) dX9_tape_9 (by decide) ?_
    refine x_iload_n (pc := 14) dX9_tape_14 rfl rfl ?_
    refine x_iconst (pc := 15) (v := -1) dX9_tape_15 (by decide) ?_
    refine x_icmp_ne (pc := 16) (tgt := 26) dX9_tape_16 (by decide) (fun c16 => ?_) (fun c16 => ?_)
    · skip
      refine x_iload_n (pc := 26) dX9_tape_26 rfl rfl ?_
      refine x_iconst (pc := 27) (v := 0) dX9_tape_27 (by decide) ?_
      refine x_iconst (pc := 28) (v := 4) dX9_tape_28 (by decide) ?_
      refine x_callS (pc := 29) (As := [.int _, .int _, .int _]) dX9_tape_29 km_X9_isWithin ks_X9_isWithin kl_RX9_81 rfl (by decide) ⟨Nat.le_refl _, Nat.le_refl _⟩ rfl (Nat.le_of_ble_eq_true rfl) (Nat.le_of_ble_eq_true rfl) (c_isWithin (fun p1 p2 => ⟨rfl, rfl, ?_⟩) (fun g1 => ⟨rfl, rfl, ?_⟩))
      · skip
        obtain ⟨k, hk, ek⟩ := s5_k p1 p2
        subst ek
        refine x_if_eq_f (pc := 32) (tgt := 41) dX9_tape_32 (by decide) (by decide) ?_
        refine x_iload_n (pc := 35) dX9_tape_35 rfl rfl ?_
        refine x_bipush (pc := 36) (v := 60) dX9_tape_36 (by decide) ?_
        refine x_icmp_le (pc := 38) (tgt := 44) dX9_tape_38 (by decide) (fun c38 => ?_) (fun c38 => ?_)
        · skip
          refine x_iload_n (pc := 44) dX9_tape_44 rfl rfl ?_
          refine x_if_ge (pc := 45) (tgt := 51) dX9_tape_45 (by decide) (fun c45 => ?_) (fun c45 => ?_)
          · skip
            obtain ⟨m, hm, em⟩ := nI_of (fun q : y < 0 => absurd (Int32.le_iff_toInt_le.mp c45) (by have := Int32.lt_iff_toInt_lt.mp q; omega))
            subst em
            have m60 : m ≤ 60 := Nat.le_of_not_lt (fun q => absurd c38 (fun z => absurd ((nI_leI (b := 60) hm (by decide)).mp z) (by omega)))
            refine x_aload (pc := 51) dX9_tape_51 rfl ?_
            refine x_iload_n (pc := 53) dX9_tape_53 rfl rfl ?_
            refine x_iload_n (pc := 54) dX9_tape_54 rfl rfl ?_
            refine x_callV (pc := 55) (As := [.int _, .int _]) dX9_tape_55 km_X8_become kv_X8_become kl_RX9_335 hTt.1 rfl rfl (by decide) ⟨Nat.le_refl _, Nat.le_refl _⟩ rfl (Nat.le_of_ble_eq_true rfl) (Nat.le_of_ble_eq_true rfl) (c_become hTt (m := m) m60 (⟨rfl, rfl, ?_⟩))
            refine x_iconst (pc := 58) (v := 1) dX9_tape_58 (by decide) ?_
            refine x_ireturn (pc := 59) dX9_tape_59 ⟨_, rfl, rfl⟩ ⟨Nat.le_refl _, Nat.le_refl _⟩ ?_
            have e9 : spTape W (nI t) (nI k) (nI m) = (1, setT W t (nI k, m, fun _ => 0)) := (spTape_k ht hk).trans ((if_neg (fun q => absurd ((nI_ltI (a := 60) (by decide) hm).mp q) (by omega))).trans ((if_neg (nI_pos hm)).trans (by rw [nI_clamp hm])))
            have h9 := K _ (zrL L (126 + 2 * t) 60) (by rw [e9]; exact hw.set (fun a p => (up2_row p).trans (up2_row p)) (fun a p => funext fun i => if_neg (fun q => p q.1)) ((up2_k (by decide)).trans up2_s) up2_s (fun i hi => if_pos ⟨rfl, Nat.lt_of_lt_of_le hi m60⟩)) (fun a p => (up2_row (by omega)).trans (up2_row (by omega))) (fun a p => funext fun i => if_neg (fun q => by omega))
            rw [e9] at h9
            exact h9
          · skip
            refine x_bipush (pc := 48) (v := -14) dX9_tape_48 (by decide) ?_
            refine x_ireturn (pc := 50) dX9_tape_50 ⟨_, rfl, rfl⟩ ⟨Nat.le_refl _, Nat.le_refl _⟩ ?_
            have e9 : spTape W (nI t) (nI k) (y) = (-14, W) := (spTape_k ht hk).trans ((if_neg (i32_nlt c38)).trans (if_pos (i32_lt c45)))
            have h9 := K I L (by rw [e9]; exact hw) (fun _ _ => rfl) (fun _ _ => rfl)
            rw [e9] at h9
            exact h9
        · skip
          refine x_bipush (pc := 41) (v := -2) dX9_tape_41 (by decide) ?_
          refine x_ireturn (pc := 43) dX9_tape_43 ⟨_, rfl, rfl⟩ ⟨Nat.le_refl _, Nat.le_refl _⟩ ?_
          have e9 : spTape W (nI t) (nI k) (y) = (-2, W) := by first | exact spTape_s ht c16 g1 | exact (spTape_k ht hk).trans (if_pos (i32_lt c38))
          have h9 := K I L (by rw [e9]; exact hw) (fun _ _ => rfl) (fun _ _ => rfl)
          rw [e9] at h9
          exact h9
      · skip
        refine x_if_eq_t (pc := 32) (tgt := 41) dX9_tape_32 (by decide) (by decide) ?_
        refine x_bipush (pc := 41) (v := -2) dX9_tape_41 (by decide) ?_
        refine x_ireturn (pc := 43) dX9_tape_43 ⟨_, rfl, rfl⟩ ⟨Nat.le_refl _, Nat.le_refl _⟩ ?_
        have e9 : spTape W (nI t) (s) (y) = (-2, W) := by first | exact spTape_s ht c16 g1 | exact (spTape_k ht hk).trans (if_pos (i32_lt c38))
        have h9 := K I L (by rw [e9]; exact hw) (fun _ _ => rfl) (fun _ _ => rfl)
        rw [e9] at h9
        exact h9
    · skip
      refine x_aload (pc := 19) dX9_tape_19 rfl ?_
      refine x_callV (pc := 21) (As := []) dX9_tape_21 km_X8_empty kv_X8_empty kl_RX9_332 hTt.1 rfl rfl (by decide) ⟨Nat.le_refl _, Nat.le_refl _⟩ rfl (Nat.le_of_ble_eq_true rfl) (Nat.le_of_ble_eq_true rfl) (c_empty hTt (⟨rfl, rfl, ?_⟩))
      refine x_iconst (pc := 24) (v := 1) dX9_tape_24 (by decide) ?_
      refine x_ireturn (pc := 25) dX9_tape_25 ⟨_, rfl, rfl⟩ ⟨Nat.le_refl _, Nat.le_refl _⟩ ?_
      subst c16
      have h9 := K _ L (by rw [spTape_e ht]; exact hw.set (fun a p => (up2_row p).trans (up2_row p)) (fun _ _ => rfl) ((up2_k (by decide)).trans up2_s) up2_s (fun i hi => absurd (show i < 0 from hi) (by omega))) (fun a p => (up2_row (by omega)).trans (up2_row (by omega))) (fun _ _ => rfl)
      rw [spTape_e ht] at h9
      exact h9
  · skip
    refine x_astoreN (pc := 5) (lv' := [(0, .ref lr), (1, .int x), (2, .int s), (3, .int y), (4, .null)]) dX9_tape_5 (by decide) rfl ?_
    refine x_aloadN (pc := 7) dX9_tape_7 rfl ?_
    refine x_ifnonnullN (pc := 9) dX9_tape_9 ?_
    refine x_iconst (pc := 12) (v := -1) dX9_tape_12 (by decide) ?_
    refine x_ireturn (pc := 13) dX9_tape_13 ⟨_, rfl, rfl⟩ ⟨Nat.le_refl _, Nat.le_refl _⟩ ?_
    have h9 := K I L (by rw [spTape_n h1]; exact hw) (fun _ _ => rfl) (fun _ _ => rfl)
    rw [spTape_n h1] at h9
    exact h9

set_option maxHeartbeats 4000000 in
set_option maxRecDepth 100000 in
theorem c_itemIt {T : xT} {n : Nat} {sh : Nat → Nat × Nat} {I : xI} {R : xR} {L : xL} {P : xPost} {lr nw im tr rd hu se ac M : Nat} (hG : GEO sh R lr nw im tr rd hu se ac M) {W : xW} (hw : TPC I L W) (ho : TOK W) {x y : Int32} {v : Int64} (K : ∀ (I2 : xI) (L2 : xL), TPC I2 L2 (spItem W x y v).2 → (∀ a, (a < 125 ∨ 137 ≤ a) → I2 a = I a) → (∀ a, (a < 125 ∨ 137 ≤ a) → L2 a = L a) → P (n, sh, 0, 0) I2 R L2 (some (.int (spItem W x y v).1)))  : XM T zX9_item 3 [.ref lr, .int x, .int y, .long v] n sh I R L P := by
  refine x_aload_n (pc := 0) dX9_item_0 rfl rfl ?_
  refine x_iload_n (pc := 1) dX9_item_1 rfl rfl ?_
  refine x_callV (pc := 2) (As := [.int _]) dX9_item_2 km_X9_tapeAt kv_X9_tapeAt kl_RX9_286 hG.g_x rfl rfl (by decide) ⟨Nat.le_refl _, Nat.le_refl _⟩ rfl (Nat.le_of_ble_eq_true rfl) (Nat.le_of_ble_eq_true rfl) (c_tapeAt hG (fun t ht et => ⟨rfl, rfl, ?_⟩) (fun h1 => ⟨rfl, rfl, ?_⟩))
  · skip
    subst et
    have hTt := hG.g_ts t ht
    obtain ⟨wt1, wt2, wt3⟩ := hw t ht
    obtain ⟨ot1, ot2⟩ := ho t ht
    refine x_astore (pc := 5) (lv' := [(0, .ref lr), (1, .int (nI t)), (2, .int y), (3, .long v), (5, .ref (125 + 2 * t))]) dX9_item_5 (by decide) rfl ?_
    refine x_aload (pc := 7) dX9_item_7 rfl ?_
    refine x_ifnonnull (pc := 9) (tgt := 14) dX9_item_9 (by decide) ?_
    refine x_aload (pc := 14) dX9_item_14 rfl ?_
    refine x_callV (pc := 16) (As := []) dX9_item_16 km_X8_isRow kv_X8_isRow kl_RX9_290 hTt.1 rfl rfl (by decide) ⟨Nat.le_refl _, Nat.le_refl _⟩ rfl (Nat.le_of_ble_eq_true rfl) (Nat.le_of_ble_eq_true rfl) (c_isRow hTt (fun hz => ⟨rfl, rfl, ?_⟩) (fun hz => ⟨rfl, rfl, ?_⟩))
    · skip
      refine x_if_ne_t (pc := 19) (tgt := 25) dX9_item_19 (by decide) (by decide) ?_
      refine x_aload (pc := 25) dX9_item_25 rfl ?_
      refine x_iload_n (pc := 27) dX9_item_27 rfl rfl ?_
      refine x_callV (pc := 28) (As := [.int _]) dX9_item_28 km_X8_hasPlace kv_X8_hasPlace kl_RX9_299 hTt.1 rfl rfl (by decide) ⟨Nat.le_refl _, Nat.le_refl _⟩ rfl (Nat.le_of_ble_eq_true rfl) (Nat.le_of_ble_eq_true rfl) (c_hasPlace hTt wt2 ot1 (fun k hk ek => ⟨rfl, rfl, ?_⟩) (fun g1 => ⟨rfl, rfl, ?_⟩))
      · skip
        subst ek
        refine x_if_ne_t (pc := 31) (tgt := 37) dX9_item_31 (by decide) (by decide) ?_
        refine x_aload (pc := 37) dX9_item_37 rfl ?_
        refine x_iload_n (pc := 39) dX9_item_39 rfl rfl ?_
        refine x_lload_n (pc := 40) dX9_item_40 rfl rfl ?_
        refine x_callV (pc := 41) (As := [.int _, .long _]) dX9_item_41 km_X8_put kv_X8_put kl_RX9_338 hTt.1 rfl rfl (by decide) ⟨Nat.le_refl _, Nat.le_refl _⟩ rfl (Nat.le_of_ble_eq_true rfl) (Nat.le_of_ble_eq_true rfl) (c_putT hTt wt2 ot1 hk (⟨rfl, rfl, ?_⟩))
        refine x_iconst (pc := 44) (v := 1) dX9_item_44 (by decide) ?_
        refine x_ireturn (pc := 45) dX9_item_45 ⟨_, rfl, rfl⟩ ⟨Nat.le_refl _, Nat.le_refl _⟩ ?_
        have e9 := spItem_s (v := v) ht (fun q => hz (wt1.trans q)) ot1 hk
        have h9 := K I _ (by rw [e9]; exact hw.set (L' := up2 L (126 + 2 * t) k (nar (I (125 + 2 * t) 1) v)) (fun _ _ => rfl) (fun a p => up2_row p) wt1 wt2 (fun i hi => by by_cases q : i = k; rw [q, up2_s, wt1]; exact (if_pos rfl).symm; rw [up2_k q, wt3 i hi]; exact (if_neg q).symm)) (fun _ _ => rfl) (fun a p => up2_row (by omega))
        rw [e9] at h9
        exact h9
      · skip
        refine x_if_ne_f (pc := 31) (tgt := 37) dX9_item_31 (by decide) (by decide) ?_
        refine x_bipush (pc := 34) (v := -13) dX9_item_34 (by decide) ?_
        refine x_ireturn (pc := 36) dX9_item_36 ⟨_, rfl, rfl⟩ ⟨Nat.le_refl _, Nat.le_refl _⟩ ?_
        have h9 := K I L (by rw [spItem_p ht (fun q => hz (wt1.trans q)) g1]; exact hw) (fun _ _ => rfl) (fun _ _ => rfl)
        rw [spItem_p ht (fun q => hz (wt1.trans q)) g1] at h9
        exact h9
    · skip
      refine x_if_ne_f (pc := 19) (tgt := 25) dX9_item_19 (by decide) (by decide) ?_
      refine x_bipush (pc := 22) (v := -11) dX9_item_22 (by decide) ?_
      refine x_ireturn (pc := 24) dX9_item_24 ⟨_, rfl, rfl⟩ ⟨Nat.le_refl _, Nat.le_refl _⟩ ?_
      have h9 := K I L (by rw [spItem_e ht (wt1.symm.trans hz)]; exact hw) (fun _ _ => rfl) (fun _ _ => rfl)
      rw [spItem_e ht (wt1.symm.trans hz)] at h9
      exact h9
  · skip
    refine x_astoreN (pc := 5) (lv' := [(0, .ref lr), (1, .int x), (2, .int y), (3, .long v), (5, .null)]) dX9_item_5 (by decide) rfl ?_
    refine x_aloadN (pc := 7) dX9_item_7 rfl ?_
    refine x_ifnonnullN (pc := 9) dX9_item_9 ?_
    refine x_iconst (pc := 12) (v := -1) dX9_item_12 (by decide) ?_
    refine x_ireturn (pc := 13) dX9_item_13 ⟨_, rfl, rfl⟩ ⟨Nat.le_refl _, Nat.le_refl _⟩ ?_
    have h9 := K I L (by rw [spItem_n h1]; exact hw) (fun _ _ => rfl) (fun _ _ => rfl)
    rw [spItem_n h1] at h9
    exact h9

set_option maxHeartbeats 4000000 in
set_option maxRecDepth 100000 in
theorem c_readIt {T : xT} {n : Nat} {sh : Nat → Nat × Nat} {I : xI} {R : xR} {L : xL} {P : xPost} {lr nw im tr rd hu se ac M : Nat} (hG : GEO sh R lr nw im tr rd hu se ac M) {W : xW} (hw : TPC I L W) (ho : TOK W) {x y : Int32} (K : P (n, sh, 0, 0) I R L (some (.long (spRead W x y))))  : XM T zX9_read 2 [.ref lr, .int x, .int y] n sh I R L P := by
  refine x_aload_n (pc := 0) dX9_read_0 rfl rfl ?_
  refine x_iload_n (pc := 1) dX9_read_1 rfl rfl ?_
  refine x_callV (pc := 2) (As := [.int _]) dX9_read_2 km_X9_tapeAt kv_X9_tapeAt kl_RX9_286 hG.g_x rfl rfl (by decide) ⟨Nat.le_refl _, Nat.le_refl _⟩ rfl (Nat.le_of_ble_eq_true rfl) (Nat.le_of_ble_eq_true rfl) (c_tapeAt hG (fun t ht et => ⟨rfl, rfl, ?_⟩) (fun h1 => ⟨rfl, rfl, ?_⟩))
  · skip
    subst et
    have hTt := hG.g_ts t ht
    obtain ⟨wt1, wt2, wt3⟩ := hw t ht
    obtain ⟨ot1, ot2⟩ := ho t ht
    refine x_astore_n (pc := 5) (lv' := [(0, .ref lr), (1, .int (nI t)), (2, .int y), (3, .ref (125 + 2 * t))]) dX9_read_5 rfl (by decide) rfl ?_
    refine x_aload_n (pc := 6) dX9_read_6 rfl rfl ?_
    refine x_ifnull (pc := 7) dX9_read_7 ?_
    refine x_aload_n (pc := 10) dX9_read_10 rfl rfl ?_
    refine x_callV (pc := 11) (As := []) dX9_read_11 km_X8_isRow kv_X8_isRow kl_RX9_290 hTt.1 rfl rfl (by decide) ⟨Nat.le_refl _, Nat.le_refl _⟩ rfl (Nat.le_of_ble_eq_true rfl) (Nat.le_of_ble_eq_true rfl) (c_isRow hTt (fun hz => ⟨rfl, rfl, ?_⟩) (fun hz => ⟨rfl, rfl, ?_⟩))
    · skip
      refine x_if_eq_f (pc := 14) (tgt := 25) dX9_read_14 (by decide) (by decide) ?_
      refine x_aload_n (pc := 17) dX9_read_17 rfl rfl ?_
      refine x_iload_n (pc := 18) dX9_read_18 rfl rfl ?_
      refine x_callV (pc := 19) (As := [.int _]) dX9_read_19 km_X8_hasPlace kv_X8_hasPlace kl_RX9_299 hTt.1 rfl rfl (by decide) ⟨Nat.le_refl _, Nat.le_refl _⟩ rfl (Nat.le_of_ble_eq_true rfl) (Nat.le_of_ble_eq_true rfl) (c_hasPlace hTt wt2 ot1 (fun k hk ek => ⟨rfl, rfl, ?_⟩) (fun g1 => ⟨rfl, rfl, ?_⟩))
      · skip
        subst ek
        refine x_if_ne_t (pc := 22) (tgt := 29) dX9_read_22 (by decide) (by decide) ?_
        refine x_aload_n (pc := 29) dX9_read_29 rfl rfl ?_
        refine x_iload_n (pc := 30) dX9_read_30 rfl rfl ?_
        refine x_callV (pc := 31) (As := [.int _]) dX9_read_31 km_X8_get kv_X8_get kl_RX9_302 hTt.1 rfl rfl (by decide) ⟨Nat.le_refl _, Nat.le_refl _⟩ rfl (Nat.le_of_ble_eq_true rfl) (Nat.le_of_ble_eq_true rfl) (c_get hTt wt2 ot1 hk (⟨rfl, rfl, ?_⟩))
        refine x_lreturn (pc := 34) dX9_read_34 rfl ⟨Nat.le_refl _, Nat.le_refl _⟩ ?_
        rw [spRead_s ht (fun q => hz (wt1.trans q)) ot1 hk] at K
        rw [wt3 k hk]
        exact K
      · skip
        refine x_if_ne_f (pc := 22) (tgt := 29) dX9_read_22 (by decide) (by decide) ?_
        refine x_ldc2 (pc := 25) (v := -9223372036854775808) dX9_read_25 kk_RX9_253 ?_
        refine x_lreturn (pc := 28) dX9_read_28 rfl ⟨Nat.le_refl _, Nat.le_refl _⟩ ?_
        have e9 : spRead W (nI t) (y) = -9223372036854775808 := by first | exact spRead_n h1 | exact spRead_e ht (wt1.symm.trans hz) | exact spRead_p ht g1
        rw [e9] at K
        exact K
    · skip
      refine x_if_eq_t (pc := 14) (tgt := 25) dX9_read_14 (by decide) (by decide) ?_
      refine x_ldc2 (pc := 25) (v := -9223372036854775808) dX9_read_25 kk_RX9_253 ?_
      refine x_lreturn (pc := 28) dX9_read_28 rfl ⟨Nat.le_refl _, Nat.le_refl _⟩ ?_
      have e9 : spRead W (nI t) (y) = -9223372036854775808 := by first | exact spRead_n h1 | exact spRead_e ht (wt1.symm.trans hz) | exact spRead_p ht g1
      rw [e9] at K
      exact K
  · skip
    refine x_astore_nN (pc := 5) (lv' := [(0, .ref lr), (1, .int x), (2, .int y), (3, .null)]) dX9_read_5 rfl (by decide) rfl ?_
    refine x_aload_nN (pc := 6) dX9_read_6 rfl rfl ?_
    refine x_ifnullN (pc := 7) (tgt := 25) dX9_read_7 (by decide) ?_
    refine x_ldc2 (pc := 25) (v := -9223372036854775808) dX9_read_25 kk_RX9_253 ?_
    refine x_lreturn (pc := 28) dX9_read_28 rfl ⟨Nat.le_refl _, Nat.le_refl _⟩ ?_
    have e9 : spRead W (x) (y) = -9223372036854775808 := by first | exact spRead_n h1 | exact spRead_e ht (wt1.symm.trans hz) | exact spRead_p ht g1
    rw [e9] at K
    exact K

set_option maxHeartbeats 4000000 in
set_option maxRecDepth 100000 in
theorem c_shiftIt {T : xT} {n : Nat} {sh : Nat → Nat × Nat} {I : xI} {R : xR} {L : xL} {P : xPost} {lr nw im tr rd hu se ac M : Nat} (hG : GEO sh R lr nw im tr rd hu se ac M) {W : xW} (hw : TPC I L W) (ho : TOK W) {x z y u v : Int32} (K : ∀ (I2 : xI) (L2 : xL), TPC I2 L2 (spShift W x z y u v).2 → (∀ a, (a < 125 ∨ 137 ≤ a) → I2 a = I a) → (∀ a, (a < 125 ∨ 137 ≤ a) → L2 a = L a) → P (n, sh, 0, 0) I2 R L2 (some (.int (spShift W x z y u v).1)))  : XM T zX9_shift 2 [.ref lr, .int x, .int z, .int y, .int u, .int v] n sh I R L P := by
  refine x_aload_n (pc := 0) dX9_shift_0 rfl rfl ?_
  refine x_iload_n (pc := 1) dX9_shift_1 rfl rfl ?_
  refine x_callV (pc := 2) (As := [.int _]) dX9_shift_2 km_X9_tapeAt kv_X9_tapeAt kl_RX9_286 hG.g_x rfl rfl (by decide) ⟨Nat.le_refl _, Nat.le_refl _⟩ rfl (Nat.le_of_ble_eq_true rfl) (Nat.le_of_ble_eq_true rfl) (c_tapeAt hG (fun s hs es => ⟨rfl, rfl, ?_⟩) (fun h1 => ⟨rfl, rfl, ?_⟩))
  · skip
    subst es
    have hTs := hG.g_ts s hs
    obtain ⟨ws1, ws2, ws3⟩ := hw s hs
    obtain ⟨os1, os2⟩ := ho s hs
    refine x_astore (pc := 5) (lv' := [(0, .ref lr), (1, .int (nI s)), (2, .int z), (3, .int y), (4, .int u), (5, .int v), (6, .ref (125 + 2 * s))]) dX9_shift_5 (by decide) rfl ?_
    refine x_aload_n (pc := 7) dX9_shift_7 rfl rfl ?_
    refine x_iload_n (pc := 8) dX9_shift_8 rfl rfl ?_
    refine x_callV (pc := 9) (As := [.int _]) dX9_shift_9 km_X9_tapeAt kv_X9_tapeAt kl_RX9_286 hG.g_x rfl rfl (by decide) ⟨Nat.le_refl _, Nat.le_refl _⟩ rfl (Nat.le_of_ble_eq_true rfl) (Nat.le_of_ble_eq_true rfl) (c_tapeAt hG (fun g hg eg => ⟨rfl, rfl, ?_⟩) (fun h2 => ⟨rfl, rfl, ?_⟩))
    · skip
      subst eg
      have hTg := hG.g_ts g hg
      obtain ⟨wg1, wg2, wg3⟩ := hw g hg
      obtain ⟨og1, og2⟩ := ho g hg
      refine x_astore (pc := 12) (lv' := [(0, .ref lr), (1, .int (nI s)), (2, .int z), (3, .int (nI g)), (4, .int u), (5, .int v), (6, .ref (125 + 2 * s)), (7, .ref (125 + 2 * g))]) dX9_shift_12 (by decide) rfl ?_
      refine x_aload (pc := 14) dX9_shift_14 rfl ?_
      refine x_ifnull (pc := 16) dX9_shift_16 ?_
      refine x_aload (pc := 19) dX9_shift_19 rfl ?_
      refine x_ifnonnull (pc := 21) (tgt := 26) dX9_shift_21 (by decide) ?_
      refine x_aload (pc := 26) dX9_shift_26 rfl ?_
      refine x_callV (pc := 28) (As := []) dX9_shift_28 km_X8_isRow kv_X8_isRow kl_RX9_290 hTs.1 rfl rfl (by decide) ⟨Nat.le_refl _, Nat.le_refl _⟩ rfl (Nat.le_of_ble_eq_true rfl) (Nat.le_of_ble_eq_true rfl) (c_isRow hTs (fun hz => ⟨rfl, rfl, ?_⟩) (fun hz => ⟨rfl, rfl, ?_⟩))
      · skip
        refine x_if_eq_f (pc := 31) (tgt := 42) dX9_shift_31 (by decide) (by decide) ?_
        refine x_aload (pc := 34) dX9_shift_34 rfl ?_
        refine x_callV (pc := 36) (As := []) dX9_shift_36 km_X8_isRow kv_X8_isRow kl_RX9_290 hTg.1 rfl rfl (by decide) ⟨Nat.le_refl _, Nat.le_refl _⟩ rfl (Nat.le_of_ble_eq_true rfl) (Nat.le_of_ble_eq_true rfl) (c_isRow hTg (fun hy => ⟨rfl, rfl, ?_⟩) (fun hy => ⟨rfl, rfl, ?_⟩))
        · skip
          refine x_if_ne_t (pc := 39) (tgt := 45) dX9_shift_39 (by decide) (by decide) ?_
          refine x_aload (pc := 45) dX9_shift_45 rfl ?_
          refine x_get (pc := 47) dX9_shift_47 kf_RX9_293 hTs.1 rfl ?_
          refine x_aload (pc := 50) dX9_shift_50 rfl ?_
          refine x_get (pc := 52) dX9_shift_52 kf_RX9_293 hTg.1 rfl ?_
          refine x_icmp_eq (pc := 55) (tgt := 61) dX9_shift_55 (by decide) (fun c55 => ?_) (fun c55 => ?_)
          · skip
            refine x_aload (pc := 61) dX9_shift_61 rfl ?_
            refine x_iload_n (pc := 63) dX9_shift_63 rfl rfl ?_
            refine x_iload (pc := 64) dX9_shift_64 rfl ?_
            refine x_callV (pc := 66) (As := [.int _, .int _]) dX9_shift_66 km_X8_hasPart kv_X8_hasPart kl_RX9_341 hTs.1 rfl rfl (by decide) ⟨Nat.le_refl _, Nat.le_refl _⟩ rfl (Nat.le_of_ble_eq_true rfl) (Nat.le_of_ble_eq_true rfl) (c_hasPart hTs ws2 os1 (fun a m ea em ha => ⟨rfl, rfl, ?_⟩) (fun na => ⟨rfl, rfl, ?_⟩))
            · skip
              subst ea em
              refine x_if_eq_f (pc := 69) (tgt := 84) dX9_shift_69 (by decide) (by decide) ?_
              refine x_aload (pc := 72) dX9_shift_72 rfl ?_
              refine x_iload (pc := 74) dX9_shift_74 rfl ?_
              refine x_iload (pc := 76) dX9_shift_76 rfl ?_
              refine x_callV (pc := 78) (As := [.int _, .int _]) dX9_shift_78 km_X8_hasPart kv_X8_hasPart kl_RX9_341 hTg.1 rfl rfl (by decide) ⟨Nat.le_refl _, Nat.le_refl _⟩ rfl (Nat.le_of_ble_eq_true rfl) (Nat.le_of_ble_eq_true rfl) (c_hasPart hTg wg2 og1 (fun b m2 eb em2 hb => ⟨rfl, rfl, ?_⟩) (fun nb => ⟨rfl, rfl, ?_⟩))
              · skip
                have em3 := (nI_eq (by omega) (by omega)).mp em2
                subst eb em3
                refine x_if_ne_t (pc := 81) (tgt := 87) dX9_shift_81 (by decide) (by decide) ?_
                refine x_aload (pc := 87) dX9_shift_87 rfl ?_
                refine x_aload (pc := 89) dX9_shift_89 rfl ?_
                refine x_iload_n (pc := 91) dX9_shift_91 rfl rfl ?_
                refine x_iload (pc := 92) dX9_shift_92 rfl ?_
                refine x_iload (pc := 94) dX9_shift_94 rfl ?_
                refine x_callV (pc := 96) (As := [.ref _, .int _, .int _, .int _]) dX9_shift_96 km_X8_takeFrom kv_X8_takeFrom kl_RX9_344 hTg.1 rfl rfl (by decide) ⟨Nat.le_refl _, Nat.le_refl _⟩ rfl (Nat.le_of_ble_eq_true rfl) (Nat.le_of_ble_eq_true rfl) (c_takeFrom hTg hTs ws2 wg2 ⟨os1, og1⟩ ha hb (⟨rfl, rfl, ?_⟩))
                refine x_iload (pc := 99) dX9_shift_99 rfl ?_
                refine x_ireturn (pc := 101) dX9_shift_101 ⟨_, rfl, rfl⟩ ⟨Nat.le_refl _, Nat.le_refl _⟩ ?_
                have e9 := spSh_s (W := W) hs hg (fun q => hz (ws1.trans q)) (fun q => hy (wg1.trans q)) (by rw [← ws1, ← wg1]; exact c55) os1 og1 ha hb
                have h9 := K I _ (by rw [e9]; exact hw.set (L' := fun q => if q = 126 + 2 * g then va_cpy (L (126 + 2 * s)) (L (126 + 2 * g)) a b m else L q) (fun _ _ => rfl) (fun q p => if_neg p) wg1 wg2 (fun i hi => by show (if 126 + 2 * g = 126 + 2 * g then va_cpy (L (126 + 2 * s)) (L (126 + 2 * g)) a b m else L (126 + 2 * g)) i = va_cpy (W s).2.2 (W g).2.2 a b m i; rw [if_pos rfl]; by_cases q : b ≤ i ∧ i < b + m; rw [pk_cpy_in q.1 q.2, pk_cpy_in q.1 q.2]; exact ws3 _ (by omega); rw [pk_cpy_out (by omega), pk_cpy_out (by omega)]; exact wg3 i hi)) (fun _ _ => rfl) (fun q p => if_neg (by omega))
                rw [e9] at h9
                exact h9
              · skip
                refine x_if_ne_f (pc := 81) (tgt := 87) dX9_shift_81 (by decide) (by decide) ?_
                refine x_bipush (pc := 84) (v := -13) dX9_shift_84 (by decide) ?_
                refine x_ireturn (pc := 86) dX9_shift_86 ⟨_, rfl, rfl⟩ ⟨Nat.le_refl _, Nat.le_refl _⟩ ?_
                have e9 : spShift W (nI s) (nI a) (nI g) (u) (nI m) = (-13, W) := spSh_p hs hg (fun q => hz (ws1.trans q)) (fun q => hy (wg1.trans q)) (by rw [← ws1, ← wg1]; exact c55) (by first | exact Or.inl na | exact Or.inr nb)
                have h9 := K I L (by rw [e9]; exact hw) (fun _ _ => rfl) (fun _ _ => rfl)
                rw [e9] at h9
                exact h9
            · skip
              refine x_if_eq_t (pc := 69) (tgt := 84) dX9_shift_69 (by decide) (by decide) ?_
              refine x_bipush (pc := 84) (v := -13) dX9_shift_84 (by decide) ?_
              refine x_ireturn (pc := 86) dX9_shift_86 ⟨_, rfl, rfl⟩ ⟨Nat.le_refl _, Nat.le_refl _⟩ ?_
              have e9 : spShift W (nI s) (z) (nI g) (u) (v) = (-13, W) := spSh_p hs hg (fun q => hz (ws1.trans q)) (fun q => hy (wg1.trans q)) (by rw [← ws1, ← wg1]; exact c55) (by first | exact Or.inl na | exact Or.inr nb)
              have h9 := K I L (by rw [e9]; exact hw) (fun _ _ => rfl) (fun _ _ => rfl)
              rw [e9] at h9
              exact h9
          · skip
            refine x_bipush (pc := 58) (v := -12) dX9_shift_58 (by decide) ?_
            refine x_ireturn (pc := 60) dX9_shift_60 ⟨_, rfl, rfl⟩ ⟨Nat.le_refl _, Nat.le_refl _⟩ ?_
            have e9 : spShift W (nI s) (z) (nI g) (u) (v) = (-12, W) := spSh_c hs hg (fun q => hz (ws1.trans q)) (fun q => hy (wg1.trans q)) (fun q => c55 (by rw [ws1, wg1]; exact q))
            have h9 := K I L (by rw [e9]; exact hw) (fun _ _ => rfl) (fun _ _ => rfl)
            rw [e9] at h9
            exact h9
        · skip
          refine x_if_ne_f (pc := 39) (tgt := 45) dX9_shift_39 (by decide) (by decide) ?_
          refine x_bipush (pc := 42) (v := -11) dX9_shift_42 (by decide) ?_
          refine x_ireturn (pc := 44) dX9_shift_44 ⟨_, rfl, rfl⟩ ⟨Nat.le_refl _, Nat.le_refl _⟩ ?_
          have e9 : spShift W (nI s) (z) (nI g) (u) (v) = (-11, W) := spSh_e hs hg (by first | exact Or.inl (ws1.symm.trans hz) | exact Or.inr (wg1.symm.trans hy))
          have h9 := K I L (by rw [e9]; exact hw) (fun _ _ => rfl) (fun _ _ => rfl)
          rw [e9] at h9
          exact h9
      · skip
        refine x_if_eq_t (pc := 31) (tgt := 42) dX9_shift_31 (by decide) (by decide) ?_
        refine x_bipush (pc := 42) (v := -11) dX9_shift_42 (by decide) ?_
        refine x_ireturn (pc := 44) dX9_shift_44 ⟨_, rfl, rfl⟩ ⟨Nat.le_refl _, Nat.le_refl _⟩ ?_
        have e9 : spShift W (nI s) (z) (nI g) (u) (v) = (-11, W) := spSh_e hs hg (by first | exact Or.inl (ws1.symm.trans hz) | exact Or.inr (wg1.symm.trans hy))
        have h9 := K I L (by rw [e9]; exact hw) (fun _ _ => rfl) (fun _ _ => rfl)
        rw [e9] at h9
        exact h9
    · skip
      refine x_astoreN (pc := 12) (lv' := [(0, .ref lr), (1, .int (nI s)), (2, .int z), (3, .int y), (4, .int u), (5, .int v), (6, .ref (125 + 2 * s)), (7, .null)]) dX9_shift_12 (by decide) rfl ?_
      refine x_aload (pc := 14) dX9_shift_14 rfl ?_
      refine x_ifnull (pc := 16) dX9_shift_16 ?_
      refine x_aloadN (pc := 19) dX9_shift_19 rfl ?_
      refine x_ifnonnullN (pc := 21) dX9_shift_21 ?_
      refine x_iconst (pc := 24) (v := -1) dX9_shift_24 (by decide) ?_
      refine x_ireturn (pc := 25) dX9_shift_25 ⟨_, rfl, rfl⟩ ⟨Nat.le_refl _, Nat.le_refl _⟩ ?_
      have e9 : spShift W (nI s) (z) (y) (u) (v) = (-1, W) := by first | exact spSh_1 h1 | exact spSh_2 h2
      have h9 := K I L (by rw [e9]; exact hw) (fun _ _ => rfl) (fun _ _ => rfl)
      rw [e9] at h9
      exact h9
  · skip
    refine x_astoreN (pc := 5) (lv' := [(0, .ref lr), (1, .int x), (2, .int z), (3, .int y), (4, .int u), (5, .int v), (6, .null)]) dX9_shift_5 (by decide) rfl ?_
    refine x_aload_n (pc := 7) dX9_shift_7 rfl rfl ?_
    refine x_iload_n (pc := 8) dX9_shift_8 rfl rfl ?_
    refine x_callV (pc := 9) (As := [.int _]) dX9_shift_9 km_X9_tapeAt kv_X9_tapeAt kl_RX9_286 hG.g_x rfl rfl (by decide) ⟨Nat.le_refl _, Nat.le_refl _⟩ rfl (Nat.le_of_ble_eq_true rfl) (Nat.le_of_ble_eq_true rfl) (c_tapeAt hG (fun g hg eg => ⟨rfl, rfl, ?_⟩) (fun h2 => ⟨rfl, rfl, ?_⟩))
    · skip
      subst eg
      have hTg := hG.g_ts g hg
      obtain ⟨wg1, wg2, wg3⟩ := hw g hg
      obtain ⟨og1, og2⟩ := ho g hg
      refine x_astore (pc := 12) (lv' := [(0, .ref lr), (1, .int x), (2, .int z), (3, .int (nI g)), (4, .int u), (5, .int v), (6, .null), (7, .ref (125 + 2 * g))]) dX9_shift_12 (by decide) rfl ?_
      refine x_aloadN (pc := 14) dX9_shift_14 rfl ?_
      refine x_ifnullN (pc := 16) (tgt := 24) dX9_shift_16 (by decide) ?_
      refine x_iconst (pc := 24) (v := -1) dX9_shift_24 (by decide) ?_
      refine x_ireturn (pc := 25) dX9_shift_25 ⟨_, rfl, rfl⟩ ⟨Nat.le_refl _, Nat.le_refl _⟩ ?_
      have e9 : spShift W (x) (z) (nI g) (u) (v) = (-1, W) := by first | exact spSh_1 h1 | exact spSh_2 h2
      have h9 := K I L (by rw [e9]; exact hw) (fun _ _ => rfl) (fun _ _ => rfl)
      rw [e9] at h9
      exact h9
    · skip
      refine x_astoreN (pc := 12) (lv' := [(0, .ref lr), (1, .int x), (2, .int z), (3, .int y), (4, .int u), (5, .int v), (6, .null), (7, .null)]) dX9_shift_12 (by decide) rfl ?_
      refine x_aloadN (pc := 14) dX9_shift_14 rfl ?_
      refine x_ifnullN (pc := 16) (tgt := 24) dX9_shift_16 (by decide) ?_
      refine x_iconst (pc := 24) (v := -1) dX9_shift_24 (by decide) ?_
      refine x_ireturn (pc := 25) dX9_shift_25 ⟨_, rfl, rfl⟩ ⟨Nat.le_refl _, Nat.le_refl _⟩ ?_
      have e9 : spShift W (x) (z) (y) (u) (v) = (-1, W) := by first | exact spSh_1 h1 | exact spSh_2 h2
      have h9 := K I L (by rw [e9]; exact hw) (fun _ _ => rfl) (fun _ _ => rfl)
      rw [e9] at h9
      exact h9

set_option maxHeartbeats 4000000 in
set_option maxRecDepth 100000 in
theorem l_judge1 {T : xT} {n : Nat} {sh : Nat → Nat × Nat} {I : xI} {R : xR} {L : xL} {P : xPost} {lr nw im tr rd hu se ac M : Nat} (hG : GEO sh R lr nw im tr rd hu se ac M) {V : xV} {B : Nat} {ars : Nat → xAR} (hv : VOK V B) (hB : B < 800000) {t m : Nat} {y : Int32} (hTt : sh (125 + 2 * t) = (0, 8) ∧ R (125 + 2 * t) 0 = some (126 + 2 * t) ∧ sh (126 + 2 * t) = (3, 60)) (hm : m ≤ 60) (K : ∀ J : xI, SC sh R J tr (V 8 0) (V 0) (V 1) (goF V (rgVal ars V) (V 8 1) m) (V 3) (V 4) (V 8 1) (V 8 2 + m) 0 (lnO (rgVal ars V)) → trP tr I J → X T zX9_judge 6 0 0 P 82 [(0, .ref lr), (1, .int (nI t)), (2, .int y), (3, .int (nI m)), (4, .ref (125 + 2 * t)), (5, .int 0)] [] (n, sh, 0, 0) J R L)  : ∀ (w i : Nat), i + w = m → ∀ (J : xI), SC sh R J tr (V 8 0) (V 0) (V 1) (goF V (rgVal ars V) (V 8 1) i) (V 3) (V 4) (V 8 1) (V 8 2 + i) 0 (lnO (rgVal ars V)) → trP tr I J → X T zX9_judge 6 0 0 P 60 [(0, .ref lr), (1, .int (nI t)), (2, .int y), (3, .int (nI m)), (4, .ref (125 + 2 * t)), (5, .int (nI i))] [] (n, sh, 0, 0) (J) R L := by
  obtain ⟨v6, v12, v10, vb, vf, vw, vm, vta, vte, vod, vrg, vdi⟩ := id hv
  intro w
  induction w with
  | zero =>
    intro i hw J hj fj
    have hz : i = m := by omega
    refine x_iload (pc := 60) dX9_judge_60 rfl ?_
    refine x_iload_n (pc := 62) dX9_judge_62 rfl rfl ?_
    refine x_icmpn_ge_t (pc := 63) (tgt := 79) (a := i) (b := m) dX9_judge_63 (by decide) (by omega) (by omega) (by omega) ?_
    refine x_iconst (pc := 79) (v := 0) dX9_judge_79 (by decide) ?_
    refine x_istore (pc := 80) (lv' := [(0, .ref lr), (1, .int (nI t)), (2, .int y), (3, .int (nI m)), (4, .ref (125 + 2 * t)), (5, .int 0)]) dX9_judge_80 (by decide) rfl ?_
    rw [hz] at hj
    exact K J hj fj
  | succ w ih =>
    intro i hw J hj fj
    have hi : i < m := by omega
    refine x_iload (pc := 60) dX9_judge_60 rfl ?_
    refine x_iload_n (pc := 62) dX9_judge_62 rfl rfl ?_
    refine x_icmpn_ge_f (pc := 63) (tgt := 79) (a := i) (b := m) dX9_judge_63 (by decide) (by omega) (by omega) (by omega) ?_
    refine x_aload_n (pc := 66) dX9_judge_66 rfl rfl ?_
    refine x_getr (pc := 67) dX9_judge_67 kf_RX9_21 hG.g_x rfl hG.g_f2 ?_
    refine x_callV (pc := 70) (As := []) dX9_judge_70 km_X6_passTenth kv_X6_passTenth kl_RX9_187 hG.g_tr.1 rfl rfl (by decide) ⟨Nat.le_refl _, Nat.le_refl _⟩ rfl (Nat.le_of_ble_eq_true rfl) (Nat.le_of_ble_eq_true rfl) (c_passTenth hj (by omega) (fun I2 h3 f2 => ⟨rfl, rfl, ?_⟩))
    have h3 := (show SC sh R I2 tr (V 8 0) (V 0) (V 1) (goF V (rgVal ars V) (V 8 1) (i + 1)) (V 3) (V 4) (V 8 1) (V 8 2 + (i + 1)) 0 (lnO (rgVal ars V)) from h3)
    refine x_iinc (pc := 73) (v := nI (i + 1)) (lv' := [(0, .ref lr), (1, .int (nI t)), (2, .int y), (3, .int (nI m)), (4, .ref (125 + 2 * t)), (5, .int (nI (i + 1)))]) dX9_judge_73 rfl (nI_1 _) (by decide) rfl ?_
    refine x_goto (pc := 76) (tgt := 60) dX9_judge_76 (by decide) ?_
    exact ih (i + 1) (by omega) I2 h3 (fun a ha => by rw [f2.1 a (by omega) (by omega) (by omega)]; exact fj a ha)

set_option maxHeartbeats 4000000 in
set_option maxRecDepth 100000 in
theorem l_judge2 {T : xT} {n : Nat} {sh : Nat → Nat × Nat} {I : xI} {R : xR} {L : xL} {P : xPost} {lr nw im tr rd hu se ac M : Nat} (hG : GEO sh R lr nw im tr rd hu se ac M) {V : xV} {B : Nat} {ars : Nat → xAR} (hv : VOK V B) {t m : Nat} {y : Int32} (hTt : sh (125 + 2 * t) = (0, 8) ∧ R (125 + 2 * t) 0 = some (126 + 2 * t) ∧ sh (126 + 2 * t) = (3, 60)) (hm : m ≤ 60) {z : Int32 × Nat × (Nat → Int64)} (z2 : I (125 + 2 * t) 2 = nI z.2.1) (z60 : z.2.1 ≤ 60) (z3 : ∀ i, i < z.2.1 → L (126 + 2 * t) i = z.2.2 i) (hj : SC sh R I tr (V 8 0) (V 0) (V 1) (goF V (rgVal ars V) (V 8 1) m) (V 3) (V 4) (V 8 1) (V 8 2 + m) 0 (lnO (rgVal ars V))) (K : P (n, sh, 0, 0) I R L (some (.int (jdW z y (goF V (rgVal ars V) (V 8 1) m) (V 8 0) 0))))  : ∀ (w i : Nat), i + w = V 8 0 → (jdW z y (goF V (rgVal ars V) (V 8 1) m) (V 8 0) 0 = jdW z y (goF V (rgVal ars V) (V 8 1) m) w i) → X T zX9_judge 6 0 0 P 82 [(0, .ref lr), (1, .int (nI t)), (2, .int y), (3, .int (nI m)), (4, .ref (125 + 2 * t)), (5, .int (nI i))] [] (n, sh, 0, 0) (I) R L := by
  obtain ⟨v6, v12, v10, vb, vf, vw, vm, vta, vte, vod, vrg, vdi⟩ := id hv
  intro w
  induction w with
  | zero =>
    intro i hw inv
    have hz : i = V 8 0 := by omega
    refine x_iload (pc := 82) dX9_judge_82 rfl ?_
    refine x_aload_n (pc := 84) dX9_judge_84 rfl rfl ?_
    refine x_getr (pc := 85) dX9_judge_85 kf_RX9_21 hG.g_x rfl hG.g_f2 ?_
    refine x_callV (pc := 88) (As := []) dX9_judge_88 km_X6_size kv_X6_size kl_RX9_94 hG.g_tr.1 rfl rfl (by decide) ⟨Nat.le_refl _, Nat.le_refl _⟩ rfl (Nat.le_of_ble_eq_true rfl) (Nat.le_of_ble_eq_true rfl) (c_size hG.g_tr hj.2.2.2.2.1 v6 (⟨rfl, rfl, ?_⟩))
    refine x_icmpn_ge_t (pc := 91) (tgt := 160) (a := i) (b := (V 8 0)) dX9_judge_91 (by decide) (by omega) (by omega) (by omega) ?_
    refine x_bipush (pc := 160) (v := -5) dX9_judge_160 (by decide) ?_
    refine x_ireturn (pc := 162) dX9_judge_162 ⟨_, rfl, rfl⟩ ⟨Nat.le_refl _, Nat.le_refl _⟩ ?_
    rw [inv] at K
    exact K
  | succ w ih =>
    intro i hw inv
    have hi : i < V 8 0 := by omega
    refine x_iload (pc := 82) dX9_judge_82 rfl ?_
    refine x_aload_n (pc := 84) dX9_judge_84 rfl rfl ?_
    refine x_getr (pc := 85) dX9_judge_85 kf_RX9_21 hG.g_x rfl hG.g_f2 ?_
    refine x_callV (pc := 88) (As := []) dX9_judge_88 km_X6_size kv_X6_size kl_RX9_94 hG.g_tr.1 rfl rfl (by decide) ⟨Nat.le_refl _, Nat.le_refl _⟩ rfl (Nat.le_of_ble_eq_true rfl) (Nat.le_of_ble_eq_true rfl) (c_size hG.g_tr hj.2.2.2.2.1 v6 (⟨rfl, rfl, ?_⟩))
    refine x_icmpn_ge_f (pc := 91) (tgt := 160) (a := i) (b := (V 8 0)) dX9_judge_91 (by decide) (by omega) (by omega) (by omega) ?_
    refine x_iload_n (pc := 94) dX9_judge_94 rfl rfl ?_
    refine x_if_lt (pc := 95) (tgt := 119) dX9_judge_95 (by decide) (fun c95 => ?_) (fun c95 => ?_)
    · skip
      refine x_bipush (pc := 119) (v := 100) dX9_judge_119 (by decide) ?_
      refine x_iload (pc := 121) dX9_judge_121 rfl ?_
      refine x_iaddn (pc := 123) (a := 100) (b := i) dX9_judge_123 ?_
      refine x_ireturn (pc := 124) dX9_judge_124 ⟨_, rfl, rfl⟩ ⟨Nat.le_refl _, Nat.le_refl _⟩ ?_
      first | rw [inv, jdW_n (jpl_neg c95)] at K | rw [inv, jdW_n (jpl_n hk (by omega))] at K | rw [inv, jdW_n (jpl_n hk (fun q => g1.elim (nI_pos (by omega)) (nI_ge q (by omega))))] at K
      exact K
    · skip
      obtain ⟨k, hk, ek⟩ := nI_of c95
      subst ek
      refine x_iload_n (pc := 98) dX9_judge_98 rfl rfl ?_
      refine x_aload (pc := 99) dX9_judge_99 rfl ?_
      refine x_get (pc := 101) dX9_judge_101 kf_RX9_296 hTt.1 rfl ?_
      rw [z2]
      refine x_icmpn_ge (pc := 104) (tgt := 119) (a := k) (b := z.2.1) dX9_judge_104 (by decide) (by omega) (by omega) (fun c104 => ?_) (fun c104 => ?_)
      · skip
        refine x_bipush (pc := 119) (v := 100) dX9_judge_119 (by decide) ?_
        refine x_iload (pc := 121) dX9_judge_121 rfl ?_
        refine x_iaddn (pc := 123) (a := 100) (b := i) dX9_judge_123 ?_
        refine x_ireturn (pc := 124) dX9_judge_124 ⟨_, rfl, rfl⟩ ⟨Nat.le_refl _, Nat.le_refl _⟩ ?_
        first | rw [inv, jdW_n (jpl_neg c95)] at K | rw [inv, jdW_n (jpl_n hk (by omega))] at K | rw [inv, jdW_n (jpl_n hk (fun q => g1.elim (nI_pos (by omega)) (nI_ge q (by omega))))] at K
        exact K
      · skip
        refine x_aload (pc := 107) dX9_judge_107 rfl ?_
        refine x_iload_n (pc := 109) dX9_judge_109 rfl rfl ?_
        refine x_iload (pc := 110) dX9_judge_110 rfl ?_
        refine x_iaddn (pc := 112) (a := k) (b := i) dX9_judge_112 ?_
        refine x_callV (pc := 113) (As := [.int _]) dX9_judge_113 km_X8_hasPlace kv_X8_hasPlace kl_RX9_299 hTt.1 rfl rfl (by decide) ⟨Nat.le_refl _, Nat.le_refl _⟩ rfl (Nat.le_of_ble_eq_true rfl) (Nat.le_of_ble_eq_true rfl) (c_hasPlace hTt z2 z60 (fun k9 hk9 ek9 => ⟨rfl, rfl, ?_⟩) (fun g1 => ⟨rfl, rfl, ?_⟩))
        · skip
          have ek8 := (nI_eq (by omega) (by omega)).mp ek9
          subst ek8
          refine x_if_ne_t (pc := 116) (tgt := 125) dX9_judge_116 (by decide) (by decide) ?_
          refine x_aload (pc := 125) dX9_judge_125 rfl ?_
          refine x_iload_n (pc := 127) dX9_judge_127 rfl rfl ?_
          refine x_iload (pc := 128) dX9_judge_128 rfl ?_
          refine x_iaddn (pc := 130) (a := k) (b := i) dX9_judge_130 ?_
          refine x_callV (pc := 131) (As := [.int _]) dX9_judge_131 km_X8_get kv_X8_get kl_RX9_302 hTt.1 rfl rfl (by decide) ⟨Nat.le_refl _, Nat.le_refl _⟩ rfl (Nat.le_of_ble_eq_true rfl) (Nat.le_of_ble_eq_true rfl) (c_get hTt z2 z60 hk9 (⟨rfl, rfl, ?_⟩))
          rw [z3 _ hk9]
          refine x_aload_n (pc := 134) dX9_judge_134 rfl rfl ?_
          refine x_getr (pc := 135) dX9_judge_135 kf_RX9_21 hG.g_x rfl hG.g_f2 ?_
          refine x_getr (pc := 138) dX9_judge_138 kf_RX9_118 hG.g_tr.1 rfl hG.g_tr.2.2.2.2.2.1 ?_
          refine x_iload (pc := 141) dX9_judge_141 rfl ?_
          refine x_callV (pc := 143) (As := [.int _]) dX9_judge_143 km_X5_at kv_X5_at kl_RX9_109 hG.g_tr.2.2.2.2.2.2.2.2.2.2.2.2.2.1.1 rfl rfl (by decide) ⟨Nat.le_refl _, Nat.le_refl _⟩ rfl (Nat.le_of_ble_eq_true rfl) (Nat.le_of_ble_eq_true rfl) (c_at (hG.g_tr.2.2.2.2.2.2.2.2.2.2.2.2.2.1) (⟨rfl, rfl, ?_⟩))
          rw [hj.2.2.2.2.1.1, rAt_in hi v6 (by decide), hj.2.2.2.2.1.2 _ hi]
          refine x_i2l (pc := 146) dX9_judge_146 ?_
          refine x_lcmp (pc := 147) dX9_judge_147 ?_
          refine x_if_eq (pc := 148) (tgt := 154) dX9_judge_148 (by decide) (fun c148 => ?_) (fun c148 => ?_)
          · skip
            refine x_iinc (pc := 154) (v := nI (i + 1)) (lv' := [(0, .ref lr), (1, .int (nI t)), (2, .int (nI k)), (3, .int (nI m)), (4, .ref (125 + 2 * t)), (5, .int (nI (i + 1)))]) dX9_judge_154 rfl (nI_1 _) (by decide) rfl ?_
            refine x_goto (pc := 157) (tgt := 82) dX9_judge_157 (by decide) ?_
            exact ih (i + 1) (by omega) (by rw [inv, jdW_e (jpl_s hk hk9) ((lg_cmp_eq _ _).mp c148)])
          · skip
            refine x_iload (pc := 151) dX9_judge_151 rfl ?_
            refine x_ireturn (pc := 153) dX9_judge_153 ⟨_, rfl, rfl⟩ ⟨Nat.le_refl _, Nat.le_refl _⟩ ?_
            rw [inv, jdW_u (jpl_s hk hk9) (fun q => c148 ((lg_cmp_eq _ _).mpr q))] at K
            exact K
        · skip
          refine x_if_ne_f (pc := 116) (tgt := 125) dX9_judge_116 (by decide) (by decide) ?_
          refine x_bipush (pc := 119) (v := 100) dX9_judge_119 (by decide) ?_
          refine x_iload (pc := 121) dX9_judge_121 rfl ?_
          refine x_iaddn (pc := 123) (a := 100) (b := i) dX9_judge_123 ?_
          refine x_ireturn (pc := 124) dX9_judge_124 ⟨_, rfl, rfl⟩ ⟨Nat.le_refl _, Nat.le_refl _⟩ ?_
          first | rw [inv, jdW_n (jpl_neg c95)] at K | rw [inv, jdW_n (jpl_n hk (by omega))] at K | rw [inv, jdW_n (jpl_n hk (fun q => g1.elim (nI_pos (by omega)) (nI_ge q (by omega))))] at K
          exact K

set_option maxHeartbeats 4000000 in
set_option maxRecDepth 100000 in
theorem c_judgeIt {T : xT} {n : Nat} {sh : Nat → Nat × Nat} {I : xI} {R : xR} {L : xL} {P : xPost} {lr nw im tr rd hu se ac M : Nat} (hG : GEO sh R lr nw im tr rd hu se ac M) {V : xV} {B rc : Nat} {ars : Nat → xAR} (h : FSC I nw V) (hv : VOK V B) (hB : B < 800000) (hr : cRings I lr rc ars) (hV6 : V 8 6 ≤ rc) (hRn : R nw 11 = rgRef V) {W : xW} (hw : TPC I L W) (ho : TOK W) {x y w : Int32} (K : ∀ (I2 : xI) (R2 : xR), trP tr I I2 → trR tr R R2 → P (n, sh, 0, 0) I2 R2 L (some (.int (spJudge V (rgVal ars V) W x y w))))  : XM T zX9_judge 6 [.ref lr, .int x, .int y, .int w] n sh I R L P := by
  obtain ⟨v6, v12, v10, vb, vf, vw, vm, vta, vte, vod, vrg, vdi⟩ := id hv
  refine x_aload_n (pc := 0) dX9_judge_0 rfl rfl ?_
  refine x_iload_n (pc := 1) dX9_judge_1 rfl rfl ?_
  refine x_callV (pc := 2) (As := [.int _]) dX9_judge_2 km_X9_tapeAt kv_X9_tapeAt kl_RX9_286 hG.g_x rfl rfl (by decide) ⟨Nat.le_refl _, Nat.le_refl _⟩ rfl (Nat.le_of_ble_eq_true rfl) (Nat.le_of_ble_eq_true rfl) (c_tapeAt hG (fun t ht et => ⟨rfl, rfl, ?_⟩) (fun h1 => ⟨rfl, rfl, ?_⟩))
  · skip
    subst et
    have hTt := hG.g_ts t ht
    obtain ⟨wt1, wt2, wt3⟩ := hw t ht
    obtain ⟨ot1, ot2⟩ := ho t ht
    refine x_astore (pc := 5) (lv' := [(0, .ref lr), (1, .int (nI t)), (2, .int y), (3, .int w), (4, .ref (125 + 2 * t))]) dX9_judge_5 (by decide) rfl ?_
    refine x_aload (pc := 7) dX9_judge_7 rfl ?_
    refine x_ifnonnull (pc := 9) (tgt := 14) dX9_judge_9 (by decide) ?_
    refine x_iload_n (pc := 14) dX9_judge_14 rfl rfl ?_
    refine x_iconst (pc := 15) (v := 0) dX9_judge_15 (by decide) ?_
    refine x_bipush (pc := 16) (v := 60) dX9_judge_16 (by decide) ?_
    refine x_callS (pc := 18) (As := [.int _, .int _, .int _]) dX9_judge_18 km_X9_isWithin ks_X9_isWithin kl_RX9_81 rfl (by decide) ⟨Nat.le_refl _, Nat.le_refl _⟩ rfl (Nat.le_of_ble_eq_true rfl) (Nat.le_of_ble_eq_true rfl) (c_isWithin (fun p1 p2 => ⟨rfl, rfl, ?_⟩) (fun g1 => ⟨rfl, rfl, ?_⟩))
    · skip
      obtain ⟨m, hm, em⟩ := i60_k p1 p2
      subst em
      refine x_if_ne_t (pc := 21) (tgt := 27) dX9_judge_21 (by decide) (by decide) ?_
      refine x_aload (pc := 27) dX9_judge_27 rfl ?_
      refine x_callV (pc := 29) (As := []) dX9_judge_29 km_X8_isRow kv_X8_isRow kl_RX9_290 hTt.1 rfl rfl (by decide) ⟨Nat.le_refl _, Nat.le_refl _⟩ rfl (Nat.le_of_ble_eq_true rfl) (Nat.le_of_ble_eq_true rfl) (c_isRow hTt (fun hz => ⟨rfl, rfl, ?_⟩) (fun hz => ⟨rfl, rfl, ?_⟩))
      · skip
        refine x_if_eq_f (pc := 32) (tgt := 46) dX9_judge_32 (by decide) (by decide) ?_
        refine x_aload (pc := 35) dX9_judge_35 rfl ?_
        refine x_get (pc := 37) dX9_judge_37 kf_RX9_293 hTt.1 rfl ?_
        refine x_if_eq (pc := 40) (tgt := 46) dX9_judge_40 (by decide) (fun c40 => ?_) (fun c40 => ?_)
        · skip
          refine x_aload_n (pc := 46) dX9_judge_46 rfl rfl ?_
          refine x_getr (pc := 47) dX9_judge_47 kf_RX9_21 hG.g_x rfl hG.g_f2 ?_
          refine x_aload_n (pc := 50) dX9_judge_50 rfl rfl ?_
          refine x_getr (pc := 51) dX9_judge_51 kf_RX9_12 hG.g_x rfl hG.g_f0 ?_
          refine x_callV (pc := 54) (As := [.ref _]) dX9_judge_54 km_X6_copyFrom kv_X6_copyFrom kl_RX9_197 hG.g_tr.1 rfl rfl (by decide) ⟨Nat.le_refl _, Nat.le_refl _⟩ rfl (Nat.le_of_ble_eq_true rfl) (Nat.le_of_ble_eq_true rfl) (c_scCopy hG.g_tr hG.g_nw (by have e1 := hG.g_e_tr; have e2 := hG.g_e_nw; omega) (fun j hj => ⟨(h.1 j hj).1, vsz_le hv hj⟩) (fun I2 k1 k2 k3 k4 k5 k6 => ⟨rfl, rfl, ?_⟩))
          refine x_iconst (pc := 57) (v := 0) dX9_judge_57 (by decide) ?_
          refine x_istore (pc := 58) (lv' := [(0, .ref lr), (1, .int (nI t)), (2, .int y), (3, .int (nI m)), (4, .ref (125 + 2 * t)), (5, .int 0)]) dX9_judge_58 (by decide) rfl ?_
          have hzz : (W t).1 = -1 ∨ (W t).1 = 0 := by first | exact Or.inl (wt1.symm.trans hz) | exact Or.inr (wt1.symm.trans c40)
          have q1 := hG.g_e_tr
          have hTt2 : sh (125 + 2 * t) = (0, 8) ∧ (up2 R tr 11 (R nw 11)) (125 + 2 * t) 0 = some (126 + 2 * t) ∧ sh (126 + 2 * t) = (3, 60) := ⟨hTt.1, (congrFun (up2_row (by omega)) 0).trans hTt.2.1, hTt.2.2⟩
          refine l_judge1 (hG.keepR (fun a k hk => trR.up a k (Or.inr hk))) hv hB hTt2 hm (fun J hj fj => ?_) m 0 (by omega) I2 (h.toTr hG hv hB hr hV6 hRn k1 k2 k3 k4 k5 k6) (fun _ _ => rfl)
          have fa : trP tr I J := fun a ha => (fj a ha).trans (k1 a (by omega))
          have h9 := K J (up2 R tr 11 (R nw 11)) fa trR.up
          rw [spJ_s ht hm hzz] at h9
          exact l_judge2 (hG.keepR (fun a k hk => trR.up a k (Or.inr hk))) hv hTt2 hm (z := W t) (by rw [fa _ (by omega)]; exact wt2) ot1 wt3 hj h9 (V 8 0) 0 (by omega) rfl
        · skip
          refine x_bipush (pc := 43) (v := -12) dX9_judge_43 (by decide) ?_
          refine x_ireturn (pc := 45) dX9_judge_45 ⟨_, rfl, rfl⟩ ⟨Nat.le_refl _, Nat.le_refl _⟩ ?_
          have e9 := (show spJudge V (rgVal ars V) W (nI t) (y) (nI m) = (-12) from spJ_c ht hm (fun q => hz (wt1.trans q)) (fun q => c40 (wt1.trans q)))
          have h9 := K I R (fun _ _ => rfl) trR.rf
          rw [e9] at h9
          exact h9
      · skip
        refine x_if_eq_t (pc := 32) (tgt := 46) dX9_judge_32 (by decide) (by decide) ?_
        refine x_aload_n (pc := 46) dX9_judge_46 rfl rfl ?_
        refine x_getr (pc := 47) dX9_judge_47 kf_RX9_21 hG.g_x rfl hG.g_f2 ?_
        refine x_aload_n (pc := 50) dX9_judge_50 rfl rfl ?_
        refine x_getr (pc := 51) dX9_judge_51 kf_RX9_12 hG.g_x rfl hG.g_f0 ?_
        refine x_callV (pc := 54) (As := [.ref _]) dX9_judge_54 km_X6_copyFrom kv_X6_copyFrom kl_RX9_197 hG.g_tr.1 rfl rfl (by decide) ⟨Nat.le_refl _, Nat.le_refl _⟩ rfl (Nat.le_of_ble_eq_true rfl) (Nat.le_of_ble_eq_true rfl) (c_scCopy hG.g_tr hG.g_nw (by have e1 := hG.g_e_tr; have e2 := hG.g_e_nw; omega) (fun j hj => ⟨(h.1 j hj).1, vsz_le hv hj⟩) (fun I2 k1 k2 k3 k4 k5 k6 => ⟨rfl, rfl, ?_⟩))
        refine x_iconst (pc := 57) (v := 0) dX9_judge_57 (by decide) ?_
        refine x_istore (pc := 58) (lv' := [(0, .ref lr), (1, .int (nI t)), (2, .int y), (3, .int (nI m)), (4, .ref (125 + 2 * t)), (5, .int 0)]) dX9_judge_58 (by decide) rfl ?_
        have hzz : (W t).1 = -1 ∨ (W t).1 = 0 := by first | exact Or.inl (wt1.symm.trans hz) | exact Or.inr (wt1.symm.trans c40)
        have q1 := hG.g_e_tr
        have hTt2 : sh (125 + 2 * t) = (0, 8) ∧ (up2 R tr 11 (R nw 11)) (125 + 2 * t) 0 = some (126 + 2 * t) ∧ sh (126 + 2 * t) = (3, 60) := ⟨hTt.1, (congrFun (up2_row (by omega)) 0).trans hTt.2.1, hTt.2.2⟩
        refine l_judge1 (hG.keepR (fun a k hk => trR.up a k (Or.inr hk))) hv hB hTt2 hm (fun J hj fj => ?_) m 0 (by omega) I2 (h.toTr hG hv hB hr hV6 hRn k1 k2 k3 k4 k5 k6) (fun _ _ => rfl)
        have fa : trP tr I J := fun a ha => (fj a ha).trans (k1 a (by omega))
        have h9 := K J (up2 R tr 11 (R nw 11)) fa trR.up
        rw [spJ_s ht hm hzz] at h9
        exact l_judge2 (hG.keepR (fun a k hk => trR.up a k (Or.inr hk))) hv hTt2 hm (z := W t) (by rw [fa _ (by omega)]; exact wt2) ot1 wt3 hj h9 (V 8 0) 0 (by omega) rfl
    · skip
      refine x_if_ne_f (pc := 21) (tgt := 27) dX9_judge_21 (by decide) (by decide) ?_
      refine x_bipush (pc := 24) (v := -2) dX9_judge_24 (by decide) ?_
      refine x_ireturn (pc := 26) dX9_judge_26 ⟨_, rfl, rfl⟩ ⟨Nat.le_refl _, Nat.le_refl _⟩ ?_
      have e9 := (show spJudge V (rgVal ars V) W (nI t) (y) (w) = (-2) from spJ_b ht g1)
      have h9 := K I R (fun _ _ => rfl) trR.rf
      rw [e9] at h9
      exact h9
  · skip
    refine x_astoreN (pc := 5) (lv' := [(0, .ref lr), (1, .int x), (2, .int y), (3, .int w), (4, .null)]) dX9_judge_5 (by decide) rfl ?_
    refine x_aloadN (pc := 7) dX9_judge_7 rfl ?_
    refine x_ifnonnullN (pc := 9) dX9_judge_9 ?_
    refine x_iconst (pc := 12) (v := -1) dX9_judge_12 (by decide) ?_
    refine x_ireturn (pc := 13) dX9_judge_13 ⟨_, rfl, rfl⟩ ⟨Nat.le_refl _, Nat.le_refl _⟩ ?_
    have e9 := (show spJudge V (rgVal ars V) W (x) (y) (w) = (-1) from spJ_n h1)
    have h9 := K I R (fun _ _ => rfl) trR.rf
    rw [e9] at h9
    exact h9

