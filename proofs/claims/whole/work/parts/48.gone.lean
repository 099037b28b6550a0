/-! ===== gone: the walk told by hand ===== -/
def may (nb : Nat) (ce : Nat → Nat) (ta x : Nat) : Bool := decide (x = ta ∨ (rnd x ta = 1 ∧ held nb ce x = false))
def gT (V : xV) (s : (Nat → Nat) × Nat) (k : Nat) : Nat := if may (V 8 0) s.1 s.2 (V 6 k) = true then V 6 k else s.2
/-- cells and tamer after k steps of the walk -/
def gn (V : xV) (o : Option xAR) : Nat → (Nat → Nat) × Nat
  | 0 => (V 2, V 8 1)
  | k + 1 => (tenthF (V 8 0) (V 0) (V 1) (gn V o k).1 (V 3) (V 4) (gT V (gn V o k) k) (V 8 2 + k) 0 (lnO o) (V 8 0), gT V (gn V o k) k)
def refP (V : xV) (o : Option xAR) (k : Nat) : Bool := !(may (V 8 0) (gn V o k).1 (gn V o k).2 (V 6 k))
def cauP (V : xV) (o : Option xAR) (k : Nat) : Bool := held (V 8 0) (gn V o (k + 1)).1 (gn V o (k + 1)).2
def fstV (p : Nat → Bool) (n : Nat) : Int32 := if fstP p n < n then nI (fstP p n) else -5
theorem fstP_le {p : Nat → Bool} : ∀ n, fstP p n ≤ n
  | 0 => Nat.le_refl 0
  | m + 1 => by
    show (if fstP p m < m then fstP p m else if p m = true then m else m + 1) ≤ m + 1
    split
    · omega
    · split <;> omega
theorem fstV_no {p : Nat → Bool} {n : Nat} (hn : n < 2 ^ 30) (h : fstV p n = -5) : fstP p n = n := by
  unfold fstV at h
  rcases Decidable.em (fstP p n < n) with q | q
  · rw [if_pos q] at h
    exact absurd (congrArg Int32.toInt h) (by rw [nI_toInt (by omega)]; have e : (-5 : Int32).toInt = -5 := rfl; omega)
  · have := fstP_le (p := p) n
    omega
theorem fstV_keep {p : Nat → Bool} {n : Nat} (h : p n = false) : fstV p (n + 1) = fstV p n := by
  unfold fstV
  have e : fstP p (n + 1) = if fstP p n < n then fstP p n else n + 1 := by
    show (if fstP p n < n then fstP p n else if p n = true then n else n + 1) = _
    rw [h]
    rfl
  rw [e]
  split
  · rw [if_pos (by omega)]
  · rw [if_neg (by omega)]
theorem fstV_had {p : Nat → Bool} {n : Nat} (h : ¬ fstV p n = -5) : fstV p (n + 1) = fstV p n := by
  unfold fstV at h ⊢
  rcases Decidable.em (fstP p n < n) with q | q
  · have e : fstP p (n + 1) = fstP p n := if_pos q
    rw [e, if_pos q, if_pos (by omega)]
  · rw [if_neg q] at h
    exact absurd rfl h
theorem fstV_new {p : Nat → Bool} {n : Nat} (hn : n < 2 ^ 30) (h : fstV p n = -5) (hp : p n = true) : fstV p (n + 1) = nI n := by
  have h1 := fstV_no hn h
  have e : fstP p (n + 1) = n := by
    show (if fstP p n < n then fstP p n else if p n = true then n else n + 1) = n
    rw [h1, if_neg (by omega), if_pos hp]
  unfold fstV
  rw [e, if_pos (by omega)]
theorem fstV_neg {p : Nat → Bool} {n : Nat} (hn : n < 2 ^ 30) (h : ¬ 0 ≤ fstV p n) : fstV p n = -5 := by
  unfold fstV at h ⊢
  rcases Decidable.em (fstP p n < n) with q | q
  · rw [if_pos q] at h
    exact absurd (nI_0le (by omega)) h
  · exact if_neg q
theorem fstV_pos {p : Nat → Bool} {n : Nat} (h : 0 ≤ fstV p n) : ¬ fstV p n = -5 := fun q => by
  rw [q] at h
  exact absurd h (by decide)
theorem refP_t {V : xV} {o : Option xAR} {k : Nat} (h : ¬ (V 6 k = (gn V o k).2 ∨ (rnd (V 6 k) (gn V o k).2 = 1 ∧ held (V 8 0) (gn V o k).1 (V 6 k) = false))) : refP V o k = true := by
  unfold refP may
  rw [decide_eq_false h]
  rfl
theorem refP_f {V : xV} {o : Option xAR} {k : Nat} (h : V 6 k = (gn V o k).2 ∨ (rnd (V 6 k) (gn V o k).2 = 1 ∧ held (V 8 0) (gn V o k).1 (V 6 k) = false)) : refP V o k = false := by
  unfold refP may
  rw [decide_eq_true h]
  rfl
theorem gT_t {V : xV} {s : (Nat → Nat) × Nat} {k : Nat} (h : V 6 k = s.2 ∨ (rnd (V 6 k) s.2 = 1 ∧ held (V 8 0) s.1 (V 6 k) = false)) : gT V s k = V 6 k := by
  unfold gT may
  rw [decide_eq_true h]
  rfl
theorem gT_f {V : xV} {s : (Nat → Nat) × Nat} {k : Nat} (h : ¬ (V 6 k = s.2 ∨ (rnd (V 6 k) s.2 = 1 ∧ held (V 8 0) s.1 (V 6 k) = false))) : gT V s k = s.2 := by
  unfold gT may
  rw [decide_eq_false h]
  rfl
def spGone (V : xV) (o : Option xAR) (x : Int32) : Int32 := match idx (V 8 0) x with
  | some b => nI ((gn V o (V 8 4)).1 b)
  | none => if x = 10 then fstV (cauP V o) (V 8 4) else if x = 11 then fstV (refP V o) (V 8 4) else if x = 12 then nI (gn V o (V 8 4)).2 else -1
theorem idx_hi {m k : Nat} (hm : m ≤ 6) (hk : 10 ≤ k) (hk2 : k < 2 ^ 31) : idx m (nI k) = none := idx_n (Or.inr (Int32.le_iff_toInt_le.mpr (by rw [nI_toInt (by omega), nI_toInt hk2]; omega)))
theorem spGone_10 {V : xV} {o : Option xAR} (h6 : V 8 0 ≤ 6) : spGone V o 10 = fstV (cauP V o) (V 8 4) := by
  unfold spGone
  rw [show idx (V 8 0) 10 = none from idx_hi (k := 10) h6 (by decide) (by decide)]
  rfl
theorem spGone_11 {V : xV} {o : Option xAR} (h6 : V 8 0 ≤ 6) : spGone V o 11 = fstV (refP V o) (V 8 4) := by
  unfold spGone
  rw [show idx (V 8 0) 11 = none from idx_hi (k := 11) h6 (by decide) (by decide)]
  rfl
theorem spGone_12 {V : xV} {o : Option xAR} (h6 : V 8 0 ≤ 6) : spGone V o 12 = nI (gn V o (V 8 4)).2 := by
  unfold spGone
  rw [show idx (V 8 0) 12 = none from idx_hi (k := 12) h6 (by decide) (by decide)]
  rfl
theorem spGone_b {V : xV} {o : Option xAR} {b : Nat} (h6 : V 8 0 ≤ 6) (hb : b < V 8 0) : spGone V o (nI b) = nI ((gn V o (V 8 4)).1 b) := by
  unfold spGone
  rw [idx_s hb (by omega)]
theorem spGone_n {V : xV} {o : Option xAR} {x : Int32} (h : x < 0 ∨ nI (V 8 0) ≤ x) (h2 : x < 10 ∨ 12 < x) : spGone V o x = -1 := by
  unfold spGone
  rw [idx_n h]
  show (if _ then _ else _) = _
  rw [if_neg (fun q => by subst q; revert h2; decide), if_neg (fun q => by subst q; revert h2; decide), if_neg (fun q => by subst q; revert h2; decide)]
theorem in_10 {x : Int32} (h1 : ¬ x < 10) (h2 : ¬ 12 < x) : x = 10 ∨ x = 11 ∨ x = 12 := by
  have a1 := Int32.le_iff_toInt_le.mp (Int32.not_lt.mp h1)
  have a2 := Int32.le_iff_toInt_le.mp (Int32.not_lt.mp h2)
  have e1 : (10 : Int32).toInt = 10 := rfl
  have e2 : (12 : Int32).toInt = 12 := rfl
  have : x.toInt = 10 ∨ x.toInt = 11 ∨ x.toInt = 12 := by omega
  exact this.imp (fun q => Int32.toInt_inj.mp q) (fun q => q.imp (fun q => Int32.toInt_inj.mp q) (fun q => Int32.toInt_inj.mp q))
theorem gn_lt {V : xV} {o : Option xAR} (h : ∀ i, i < V 8 0 → V 2 i < 36) : ∀ k i, i < V 8 0 → (gn V o k).1 i < 36
  | 0, i, hi => h i hi
  | k + 1, i, hi => tenthF_lt (fun i hi => gn_lt h k i hi) _ (Nat.le_refl _) i hi

set_option maxHeartbeats 4000000 in
set_option maxRecDepth 100000 in
theorem l_gone {T : xT} {n : Nat} {sh : Nat → Nat × Nat} {I : xI} {R : xR} {L : xL} {P : xPost} {lr nw im tr rd hu se ac M : Nat} (hG : GEO sh R lr nw im tr rd hu se ac M) {V : xV} {B : Nat} {ars : Nat → xAR} (h : FSC I nw V) (hv : VOK V B) (hB : B < 800000) {x : Int32} (hx : ¬ x = 10 → ¬ x = 11 → ¬ x = 12 → ∃ b : Nat, b < V 8 0 ∧ x = nI b) (K : ∀ I2 : xI, trP tr I I2 → P (n, sh, 0, 0) I2 R L (some (.int (spGone V (rgVal ars V) x))))  : ∀ (w i : Nat), i + w = V 8 4 → ∀ (J : xI), SC sh R J tr (V 8 0) (V 0) (V 1) (gn V (rgVal ars V) i).1 (V 3) (V 4) (gn V (rgVal ars V) i).2 (V 8 2 + i) 0 (lnO (rgVal ars V)) → trP tr I J → X T zX9_gone 6 0 0 P 44 [(0, .ref lr), (1, .int x), (2, .int (fstV (cauP V (rgVal ars V))  i)), (3, .int (fstV (refP V (rgVal ars V))  i)), (4, .int (nI i))] [] (n, sh, 0, 0) (J) R L := by
  obtain ⟨v6, v12, v10, vb, vf, vw, vm, vta, vte, vod, vrg, vdi⟩ := id hv
  intro w
  induction w with
  | zero =>
    intro i hw J hj fj
    have hz : i = V 8 4 := by omega
    have r6 : bRow J (nw + 13) (V 8 4) (V 6) := (h.keepN hG fj).row 6 (by decide)
    refine x_iload (pc := 44) dX9_gone_44 rfl ?_
    refine x_aload_n (pc := 46) dX9_gone_46 rfl rfl ?_
    refine x_getr (pc := 47) dX9_gone_47 kf_RX9_12 hG.g_x rfl hG.g_f0 ?_
    refine x_getr (pc := 50) dX9_gone_50 kf_RX9_206 hG.g_nw.1 rfl hG.g_nw.2.2.2.2.2.2.2.2.2.1 ?_
    refine x_get (pc := 53) dX9_gone_53 kf_RX9_165 hG.g_nw.2.2.2.2.2.2.2.2.2.2.2.2.2.2.2.2.2.1.1 rfl ?_
    rw [r6.1]
    refine x_icmpn_ge_t (pc := 56) (tgt := 126) (a := i) (b := (V 8 4)) dX9_gone_56 (by decide) (by omega) (by omega) (by omega) ?_
    refine x_iload_n (pc := 126) dX9_gone_126 rfl rfl ?_
    refine x_tsw (pc := 127) (dt := 164) [(10, 152), (11, 154), (12, 156)] dX9_gone_127 (by decide +kernel) (by decide) ?_
    refine xsw_c (fun c127 => ?_) (fun n127_10 => ?_)
    · skip
      refine x_iload_n (pc := 152) dX9_gone_152 rfl rfl ?_
      refine x_ireturn (pc := 153) dX9_gone_153 ⟨_, rfl, rfl⟩ ⟨Nat.le_refl _, Nat.le_refl _⟩ ?_
      subst hz
      have h9 := K J fj
      first
      | (subst c127; rw [spGone_10 v6] at h9; exact h9)
      | (subst c127; rw [spGone_11 v6] at h9; exact h9)
      | (subst c127; rw [spGone_12 v6] at h9; exact h9)
      | (obtain ⟨b, hb, rfl⟩ := hx n127_10 n127_11 n127_12; rw [spGone_b v6 hb] at h9; have q5 := hj.2.2.2.2.1; rw [q5.1, rAt_in hb v6 (by decide), q5.2 _ hb]; exact h9)
    refine xsw_c (fun c127 => ?_) (fun n127_11 => ?_)
    · skip
      refine x_iload_n (pc := 154) dX9_gone_154 rfl rfl ?_
      refine x_ireturn (pc := 155) dX9_gone_155 ⟨_, rfl, rfl⟩ ⟨Nat.le_refl _, Nat.le_refl _⟩ ?_
      subst hz
      have h9 := K J fj
      first
      | (subst c127; rw [spGone_10 v6] at h9; exact h9)
      | (subst c127; rw [spGone_11 v6] at h9; exact h9)
      | (subst c127; rw [spGone_12 v6] at h9; exact h9)
      | (obtain ⟨b, hb, rfl⟩ := hx n127_10 n127_11 n127_12; rw [spGone_b v6 hb] at h9; have q5 := hj.2.2.2.2.1; rw [q5.1, rAt_in hb v6 (by decide), q5.2 _ hb]; exact h9)
    refine xsw_c (fun c127 => ?_) (fun n127_12 => ?_)
    · skip
      refine x_aload_n (pc := 156) dX9_gone_156 rfl rfl ?_
      refine x_getr (pc := 157) dX9_gone_157 kf_RX9_21 hG.g_x rfl hG.g_f2 ?_
      refine x_get (pc := 160) dX9_gone_160 kf_RX9_88 hG.g_tr.1 rfl ?_
      rw [hj.2.2.2.2.2.2.2.2.1]
      refine x_ireturn (pc := 163) dX9_gone_163 ⟨_, rfl, rfl⟩ ⟨Nat.le_refl _, Nat.le_refl _⟩ ?_
      subst hz
      have h9 := K J fj
      first
      | (subst c127; rw [spGone_10 v6] at h9; exact h9)
      | (subst c127; rw [spGone_11 v6] at h9; exact h9)
      | (subst c127; rw [spGone_12 v6] at h9; exact h9)
      | (obtain ⟨b, hb, rfl⟩ := hx n127_10 n127_11 n127_12; rw [spGone_b v6 hb] at h9; have q5 := hj.2.2.2.2.1; rw [q5.1, rAt_in hb v6 (by decide), q5.2 _ hb]; exact h9)
    refine xsw_n ?_
    refine x_aload_n (pc := 164) dX9_gone_164 rfl rfl ?_
    refine x_getr (pc := 165) dX9_gone_165 kf_RX9_21 hG.g_x rfl hG.g_f2 ?_
    refine x_getr (pc := 168) dX9_gone_168 kf_RX9_118 hG.g_tr.1 rfl hG.g_tr.2.2.2.2.2.1 ?_
    refine x_iload_n (pc := 171) dX9_gone_171 rfl rfl ?_
    refine x_callV (pc := 172) (As := [.int _]) dX9_gone_172 km_X5_at kv_X5_at kl_RX9_109 hG.g_tr.2.2.2.2.2.2.2.2.2.2.2.2.2.1.1 rfl rfl (by decide) ⟨Nat.le_refl _, Nat.le_refl _⟩ rfl (Nat.le_of_ble_eq_true rfl) (Nat.le_of_ble_eq_true rfl) (c_at (hG.g_tr.2.2.2.2.2.2.2.2.2.2.2.2.2.1) (⟨rfl, rfl, ?_⟩))
    refine x_ireturn (pc := 175) dX9_gone_175 ⟨_, rfl, rfl⟩ ⟨Nat.le_refl _, Nat.le_refl _⟩ ?_
    subst hz
    have h9 := K J fj
    first
    | (subst c127; rw [spGone_10 v6] at h9; exact h9)
    | (subst c127; rw [spGone_11 v6] at h9; exact h9)
    | (subst c127; rw [spGone_12 v6] at h9; exact h9)
    | (obtain ⟨b, hb, rfl⟩ := hx n127_10 n127_11 n127_12; rw [spGone_b v6 hb] at h9; have q5 := hj.2.2.2.2.1; rw [q5.1, rAt_in hb v6 (by decide), q5.2 _ hb]; exact h9)
  | succ w ih =>
    intro i hw J hj fj
    have hi : i < V 8 4 := by omega
    have r6 : bRow J (nw + 13) (V 8 4) (V 6) := (h.keepN hG fj).row 6 (by decide)
    refine x_iload (pc := 44) dX9_gone_44 rfl ?_
    refine x_aload_n (pc := 46) dX9_gone_46 rfl rfl ?_
    refine x_getr (pc := 47) dX9_gone_47 kf_RX9_12 hG.g_x rfl hG.g_f0 ?_
    refine x_getr (pc := 50) dX9_gone_50 kf_RX9_206 hG.g_nw.1 rfl hG.g_nw.2.2.2.2.2.2.2.2.2.1 ?_
    refine x_get (pc := 53) dX9_gone_53 kf_RX9_165 hG.g_nw.2.2.2.2.2.2.2.2.2.2.2.2.2.2.2.2.2.1.1 rfl ?_
    rw [r6.1]
    refine x_icmpn_ge_f (pc := 56) (tgt := 126) (a := i) (b := (V 8 4)) dX9_gone_56 (by decide) (by omega) (by omega) (by omega) ?_
    refine x_aload_n (pc := 59) dX9_gone_59 rfl rfl ?_
    refine x_getr (pc := 60) dX9_gone_60 kf_RX9_21 hG.g_x rfl hG.g_f2 ?_
    refine x_aload_n (pc := 63) dX9_gone_63 rfl rfl ?_
    refine x_getr (pc := 64) dX9_gone_64 kf_RX9_12 hG.g_x rfl hG.g_f0 ?_
    refine x_getr (pc := 67) dX9_gone_67 kf_RX9_206 hG.g_nw.1 rfl hG.g_nw.2.2.2.2.2.2.2.2.2.1 ?_
    refine x_iload (pc := 70) dX9_gone_70 rfl ?_
    refine x_callV (pc := 72) (As := [.int _]) dX9_gone_72 km_X5_at kv_X5_at kl_RX9_109 hG.g_nw.2.2.2.2.2.2.2.2.2.2.2.2.2.2.2.2.2.1.1 rfl rfl (by decide) ⟨Nat.le_refl _, Nat.le_refl _⟩ rfl (Nat.le_of_ble_eq_true rfl) (Nat.le_of_ble_eq_true rfl) (c_at (hG.g_nw.2.2.2.2.2.2.2.2.2.2.2.2.2.2.2.2.2.1) (⟨rfl, rfl, ?_⟩))
    rw [r6.1, rAt_in hi (by omega) (by omega), r6.2 _ hi]
    refine x_callV (pc := 75) (As := [.int _]) dX9_gone_75 km_X6_goTo kv_X6_goTo kl_RX9_213 hG.g_tr.1 rfl rfl (by decide) ⟨Nat.le_refl _, Nat.le_refl _⟩ rfl (Nat.le_of_ble_eq_true rfl) (Nat.le_of_ble_eq_true rfl) (c_goTo hG.g_tr hj.2.2.2.2.1 v6 (fun i hi => (hj.2.2.2.2.2.2.2.1 i hi).2.2.1) hj.2.2.2.2.2.2.2.2.1 hj.2.2.2.2.2.2.2.2.2.1 (vw i hi) (fun hm => ⟨rfl, rfl, ?_⟩) (fun hm => ⟨rfl, rfl, ?_⟩))
    · skip
      have hj1 : SC sh R (up2 J tr 8 (nI (V 6 i))) tr (V 8 0) (V 0) (V 1) (gn V (rgVal ars V) i).1 (V 3) (V 4) (gT V (gn V (rgVal ars V) i) i) (V 8 2 + i) 0 (lnO (rgVal ars V)) := by rw [gT_t hm]; exact hj.setTamer (vw i hi)
      have ff : trP tr I (up2 J tr 8 (nI (V 6 i))) := fun a ha => by rw [up2_row (by omega)]; exact fj a ha
      refine x_istore (pc := 78) (lv' := [(0, .ref lr), (1, .int x), (2, .int (fstV (cauP V (rgVal ars V))  i)), (3, .int (fstV (refP V (rgVal ars V))  i)), (4, .int (nI i)), (5, .int 1)]) dX9_gone_78 (by decide) rfl ?_
      refine x_iload (pc := 80) dX9_gone_80 rfl ?_
      refine x_if_ne_t (pc := 82) (tgt := 94) dX9_gone_82 (by decide) (by decide) ?_
      refine x_aload_n (pc := 94) dX9_gone_94 rfl rfl ?_
      refine x_getr (pc := 95) dX9_gone_95 kf_RX9_21 hG.g_x rfl hG.g_f2 ?_
      refine x_callV (pc := 98) (As := []) dX9_gone_98 km_X6_passTenth kv_X6_passTenth kl_RX9_187 hG.g_tr.1 rfl rfl (by decide) ⟨Nat.le_refl _, Nat.le_refl _⟩ rfl (Nat.le_of_ble_eq_true rfl) (Nat.le_of_ble_eq_true rfl) (c_passTenth hj1 (by omega) (fun I2 h3 f2 => ⟨rfl, rfl, ?_⟩))
      have h3 := (show SC sh R I2 tr (V 8 0) (V 0) (V 1) (gn V (rgVal ars V) (i + 1)).1 (V 3) (V 4) (gn V (rgVal ars V) (i + 1)).2 (V 8 2 + (i + 1)) 0 (lnO (rgVal ars V)) from h3)
      refine x_iload_n (pc := 101) dX9_gone_101 rfl rfl ?_
      refine x_bipush (pc := 102) (v := -5) dX9_gone_102 (by decide) ?_
      refine x_icmp_ne (pc := 104) (tgt := 120) dX9_gone_104 (by decide) (fun c104 => ?_) (fun c104 => ?_)
      · skip
        refine x_iinc (pc := 120) (v := nI (i + 1)) (lv' := [(0, .ref lr), (1, .int x), (2, .int (fstV (cauP V (rgVal ars V))  i)), (3, .int (fstV (refP V (rgVal ars V))  i)), (4, .int (nI (i + 1))), (5, .int 1)]) dX9_gone_120 rfl (nI_1 _) (by decide) rfl ?_
        refine x_goto (pc := 123) (tgt := 44) dX9_gone_123 (by decide) ?_
        have h9 := ih (i + 1) (by omega) I2 h3 (fun a ha => by rw [f2.1 a (by omega) (by omega) (by omega)]; exact ff a ha)
        first
        | rw [fstV_keep (p := refP V (rgVal ars V)) (refP_f hm)] at h9
        | rw [fstV_new (p := refP V (rgVal ars V)) (by omega) c88 (refP_t hm)] at h9
        | rw [fstV_new (p := refP V (rgVal ars V)) (by omega) (Decidable.not_not.mp c88) (refP_t hm)] at h9
        | rw [fstV_had (p := refP V (rgVal ars V)) c88] at h9
        first
        | rw [fstV_had (p := cauP V (rgVal ars V)) c104] at h9
        | rw [fstV_new (p := cauP V (rgVal ars V)) (by omega) c104 hh] at h9
        | rw [fstV_new (p := cauP V (rgVal ars V)) (by omega) (Decidable.not_not.mp c104) hh] at h9
        | rw [fstV_keep (p := cauP V (rgVal ars V)) hf] at h9
        exact X.keep [0, 1, 2, 3, 4] rfl h9
      · skip
        refine x_aload_n (pc := 107) dX9_gone_107 rfl rfl ?_
        refine x_getr (pc := 108) dX9_gone_108 kf_RX9_21 hG.g_x rfl hG.g_f2 ?_
        refine x_callV (pc := 111) (As := []) dX9_gone_111 km_X6_isCaught kv_X6_isCaught kl_RX9_190 hG.g_tr.1 rfl rfl (by decide) ⟨Nat.le_refl _, Nat.le_refl _⟩ rfl (Nat.le_of_ble_eq_true rfl) (Nat.le_of_ble_eq_true rfl) (c_isCaught hG.g_tr h3.2.2.2.2.1 v6 (fun i hi => (h3.2.2.2.2.2.2.2.1 i hi).2.2.1) h3.2.2.2.2.2.2.2.2.1 h3.2.2.2.2.2.2.2.2.2.1 (fun hh => ⟨rfl, rfl, ?_⟩) (fun hf => ⟨rfl, rfl, ?_⟩))
        · skip
          refine x_if_eq_f (pc := 114) (tgt := 120) dX9_gone_114 (by decide) (by decide) ?_
          refine x_iload (pc := 117) dX9_gone_117 rfl ?_
          refine x_istore_n (pc := 119) (lv' := [(0, .ref lr), (1, .int x), (2, .int (nI i)), (3, .int (fstV (refP V (rgVal ars V))  i)), (4, .int (nI i)), (5, .int 1)]) dX9_gone_119 rfl (by decide) rfl ?_
          refine x_iinc (pc := 120) (v := nI (i + 1)) (lv' := [(0, .ref lr), (1, .int x), (2, .int (nI i)), (3, .int (fstV (refP V (rgVal ars V))  i)), (4, .int (nI (i + 1))), (5, .int 1)]) dX9_gone_120 rfl (nI_1 _) (by decide) rfl ?_
          refine x_goto (pc := 123) (tgt := 44) dX9_gone_123 (by decide) ?_
          have h9 := ih (i + 1) (by omega) I2 h3 (fun a ha => by rw [f2.1 a (by omega) (by omega) (by omega)]; exact ff a ha)
          first
          | rw [fstV_keep (p := refP V (rgVal ars V)) (refP_f hm)] at h9
          | rw [fstV_new (p := refP V (rgVal ars V)) (by omega) c88 (refP_t hm)] at h9
          | rw [fstV_new (p := refP V (rgVal ars V)) (by omega) (Decidable.not_not.mp c88) (refP_t hm)] at h9
          | rw [fstV_had (p := refP V (rgVal ars V)) c88] at h9
          first
          | rw [fstV_had (p := cauP V (rgVal ars V)) c104] at h9
          | rw [fstV_new (p := cauP V (rgVal ars V)) (by omega) c104 hh] at h9
          | rw [fstV_new (p := cauP V (rgVal ars V)) (by omega) (Decidable.not_not.mp c104) hh] at h9
          | rw [fstV_keep (p := cauP V (rgVal ars V)) hf] at h9
          exact X.keep [0, 1, 2, 3, 4] rfl h9
        · skip
          refine x_if_eq_t (pc := 114) (tgt := 120) dX9_gone_114 (by decide) (by decide) ?_
          refine x_iinc (pc := 120) (v := nI (i + 1)) (lv' := [(0, .ref lr), (1, .int x), (2, .int (fstV (cauP V (rgVal ars V))  i)), (3, .int (fstV (refP V (rgVal ars V))  i)), (4, .int (nI (i + 1))), (5, .int 1)]) dX9_gone_120 rfl (nI_1 _) (by decide) rfl ?_
          refine x_goto (pc := 123) (tgt := 44) dX9_gone_123 (by decide) ?_
          have h9 := ih (i + 1) (by omega) I2 h3 (fun a ha => by rw [f2.1 a (by omega) (by omega) (by omega)]; exact ff a ha)
          first
          | rw [fstV_keep (p := refP V (rgVal ars V)) (refP_f hm)] at h9
          | rw [fstV_new (p := refP V (rgVal ars V)) (by omega) c88 (refP_t hm)] at h9
          | rw [fstV_new (p := refP V (rgVal ars V)) (by omega) (Decidable.not_not.mp c88) (refP_t hm)] at h9
          | rw [fstV_had (p := refP V (rgVal ars V)) c88] at h9
          first
          | rw [fstV_had (p := cauP V (rgVal ars V)) c104] at h9
          | rw [fstV_new (p := cauP V (rgVal ars V)) (by omega) c104 hh] at h9
          | rw [fstV_new (p := cauP V (rgVal ars V)) (by omega) (Decidable.not_not.mp c104) hh] at h9
          | rw [fstV_keep (p := cauP V (rgVal ars V)) hf] at h9
          exact X.keep [0, 1, 2, 3, 4] rfl h9
    · skip
      have hj1 : SC sh R J tr (V 8 0) (V 0) (V 1) (gn V (rgVal ars V) i).1 (V 3) (V 4) (gT V (gn V (rgVal ars V) i) i) (V 8 2 + i) 0 (lnO (rgVal ars V)) := by rw [gT_f hm]; exact hj
      have ff := fj
      refine x_istore (pc := 78) (lv' := [(0, .ref lr), (1, .int x), (2, .int (fstV (cauP V (rgVal ars V))  i)), (3, .int (fstV (refP V (rgVal ars V))  i)), (4, .int (nI i)), (5, .int 0)]) dX9_gone_78 (by decide) rfl ?_
      refine x_iload (pc := 80) dX9_gone_80 rfl ?_
      refine x_if_ne_f (pc := 82) (tgt := 94) dX9_gone_82 (by decide) (by decide) ?_
      refine x_iload_n (pc := 85) dX9_gone_85 rfl rfl ?_
      refine x_bipush (pc := 86) (v := -5) dX9_gone_86 (by decide) ?_
      refine x_icmp_ne (pc := 88) (tgt := 94) dX9_gone_88 (by decide) (fun c88 => ?_) (fun c88 => ?_)
      · skip
        refine x_aload_n (pc := 94) dX9_gone_94 rfl rfl ?_
        refine x_getr (pc := 95) dX9_gone_95 kf_RX9_21 hG.g_x rfl hG.g_f2 ?_
        refine x_callV (pc := 98) (As := []) dX9_gone_98 km_X6_passTenth kv_X6_passTenth kl_RX9_187 hG.g_tr.1 rfl rfl (by decide) ⟨Nat.le_refl _, Nat.le_refl _⟩ rfl (Nat.le_of_ble_eq_true rfl) (Nat.le_of_ble_eq_true rfl) (c_passTenth hj1 (by omega) (fun I2 h3 f2 => ⟨rfl, rfl, ?_⟩))
        have h3 := (show SC sh R I2 tr (V 8 0) (V 0) (V 1) (gn V (rgVal ars V) (i + 1)).1 (V 3) (V 4) (gn V (rgVal ars V) (i + 1)).2 (V 8 2 + (i + 1)) 0 (lnO (rgVal ars V)) from h3)
        refine x_iload_n (pc := 101) dX9_gone_101 rfl rfl ?_
        refine x_bipush (pc := 102) (v := -5) dX9_gone_102 (by decide) ?_
        refine x_icmp_ne (pc := 104) (tgt := 120) dX9_gone_104 (by decide) (fun c104 => ?_) (fun c104 => ?_)
        · skip
          refine x_iinc (pc := 120) (v := nI (i + 1)) (lv' := [(0, .ref lr), (1, .int x), (2, .int (fstV (cauP V (rgVal ars V))  i)), (3, .int (fstV (refP V (rgVal ars V))  i)), (4, .int (nI (i + 1))), (5, .int 0)]) dX9_gone_120 rfl (nI_1 _) (by decide) rfl ?_
          refine x_goto (pc := 123) (tgt := 44) dX9_gone_123 (by decide) ?_
          have h9 := ih (i + 1) (by omega) I2 h3 (fun a ha => by rw [f2.1 a (by omega) (by omega) (by omega)]; exact ff a ha)
          first
          | rw [fstV_keep (p := refP V (rgVal ars V)) (refP_f hm)] at h9
          | rw [fstV_new (p := refP V (rgVal ars V)) (by omega) c88 (refP_t hm)] at h9
          | rw [fstV_new (p := refP V (rgVal ars V)) (by omega) (Decidable.not_not.mp c88) (refP_t hm)] at h9
          | rw [fstV_had (p := refP V (rgVal ars V)) c88] at h9
          first
          | rw [fstV_had (p := cauP V (rgVal ars V)) c104] at h9
          | rw [fstV_new (p := cauP V (rgVal ars V)) (by omega) c104 hh] at h9
          | rw [fstV_new (p := cauP V (rgVal ars V)) (by omega) (Decidable.not_not.mp c104) hh] at h9
          | rw [fstV_keep (p := cauP V (rgVal ars V)) hf] at h9
          exact X.keep [0, 1, 2, 3, 4] rfl h9
        · skip
          refine x_aload_n (pc := 107) dX9_gone_107 rfl rfl ?_
          refine x_getr (pc := 108) dX9_gone_108 kf_RX9_21 hG.g_x rfl hG.g_f2 ?_
          refine x_callV (pc := 111) (As := []) dX9_gone_111 km_X6_isCaught kv_X6_isCaught kl_RX9_190 hG.g_tr.1 rfl rfl (by decide) ⟨Nat.le_refl _, Nat.le_refl _⟩ rfl (Nat.le_of_ble_eq_true rfl) (Nat.le_of_ble_eq_true rfl) (c_isCaught hG.g_tr h3.2.2.2.2.1 v6 (fun i hi => (h3.2.2.2.2.2.2.2.1 i hi).2.2.1) h3.2.2.2.2.2.2.2.2.1 h3.2.2.2.2.2.2.2.2.2.1 (fun hh => ⟨rfl, rfl, ?_⟩) (fun hf => ⟨rfl, rfl, ?_⟩))
          · skip
            refine x_if_eq_f (pc := 114) (tgt := 120) dX9_gone_114 (by decide) (by decide) ?_
            refine x_iload (pc := 117) dX9_gone_117 rfl ?_
            refine x_istore_n (pc := 119) (lv' := [(0, .ref lr), (1, .int x), (2, .int (nI i)), (3, .int (fstV (refP V (rgVal ars V))  i)), (4, .int (nI i)), (5, .int 0)]) dX9_gone_119 rfl (by decide) rfl ?_
            refine x_iinc (pc := 120) (v := nI (i + 1)) (lv' := [(0, .ref lr), (1, .int x), (2, .int (nI i)), (3, .int (fstV (refP V (rgVal ars V))  i)), (4, .int (nI (i + 1))), (5, .int 0)]) dX9_gone_120 rfl (nI_1 _) (by decide) rfl ?_
            refine x_goto (pc := 123) (tgt := 44) dX9_gone_123 (by decide) ?_
            have h9 := ih (i + 1) (by omega) I2 h3 (fun a ha => by rw [f2.1 a (by omega) (by omega) (by omega)]; exact ff a ha)
            first
            | rw [fstV_keep (p := refP V (rgVal ars V)) (refP_f hm)] at h9
            | rw [fstV_new (p := refP V (rgVal ars V)) (by omega) c88 (refP_t hm)] at h9
            | rw [fstV_new (p := refP V (rgVal ars V)) (by omega) (Decidable.not_not.mp c88) (refP_t hm)] at h9
            | rw [fstV_had (p := refP V (rgVal ars V)) c88] at h9
            first
            | rw [fstV_had (p := cauP V (rgVal ars V)) c104] at h9
            | rw [fstV_new (p := cauP V (rgVal ars V)) (by omega) c104 hh] at h9
            | rw [fstV_new (p := cauP V (rgVal ars V)) (by omega) (Decidable.not_not.mp c104) hh] at h9
            | rw [fstV_keep (p := cauP V (rgVal ars V)) hf] at h9
            exact X.keep [0, 1, 2, 3, 4] rfl h9
          · skip
            refine x_if_eq_t (pc := 114) (tgt := 120) dX9_gone_114 (by decide) (by decide) ?_
            refine x_iinc (pc := 120) (v := nI (i + 1)) (lv' := [(0, .ref lr), (1, .int x), (2, .int (fstV (cauP V (rgVal ars V))  i)), (3, .int (fstV (refP V (rgVal ars V))  i)), (4, .int (nI (i + 1))), (5, .int 0)]) dX9_gone_120 rfl (nI_1 _) (by decide) rfl ?_
            refine x_goto (pc := 123) (tgt := 44) dX9_gone_123 (by decide) ?_
            have h9 := ih (i + 1) (by omega) I2 h3 (fun a ha => by rw [f2.1 a (by omega) (by omega) (by omega)]; exact ff a ha)
            first
            | rw [fstV_keep (p := refP V (rgVal ars V)) (refP_f hm)] at h9
            | rw [fstV_new (p := refP V (rgVal ars V)) (by omega) c88 (refP_t hm)] at h9
            | rw [fstV_new (p := refP V (rgVal ars V)) (by omega) (Decidable.not_not.mp c88) (refP_t hm)] at h9
            | rw [fstV_had (p := refP V (rgVal ars V)) c88] at h9
            first
            | rw [fstV_had (p := cauP V (rgVal ars V)) c104] at h9
            | rw [fstV_new (p := cauP V (rgVal ars V)) (by omega) c104 hh] at h9
            | rw [fstV_new (p := cauP V (rgVal ars V)) (by omega) (Decidable.not_not.mp c104) hh] at h9
            | rw [fstV_keep (p := cauP V (rgVal ars V)) hf] at h9
            exact X.keep [0, 1, 2, 3, 4] rfl h9
      · skip
        refine x_iload (pc := 91) dX9_gone_91 rfl ?_
        refine x_istore_n (pc := 93) (lv' := [(0, .ref lr), (1, .int x), (2, .int (fstV (cauP V (rgVal ars V))  i)), (3, .int (nI i)), (4, .int (nI i)), (5, .int 0)]) dX9_gone_93 rfl (by decide) rfl ?_
        refine x_aload_n (pc := 94) dX9_gone_94 rfl rfl ?_
        refine x_getr (pc := 95) dX9_gone_95 kf_RX9_21 hG.g_x rfl hG.g_f2 ?_
        refine x_callV (pc := 98) (As := []) dX9_gone_98 km_X6_passTenth kv_X6_passTenth kl_RX9_187 hG.g_tr.1 rfl rfl (by decide) ⟨Nat.le_refl _, Nat.le_refl _⟩ rfl (Nat.le_of_ble_eq_true rfl) (Nat.le_of_ble_eq_true rfl) (c_passTenth hj1 (by omega) (fun I2 h3 f2 => ⟨rfl, rfl, ?_⟩))
        have h3 := (show SC sh R I2 tr (V 8 0) (V 0) (V 1) (gn V (rgVal ars V) (i + 1)).1 (V 3) (V 4) (gn V (rgVal ars V) (i + 1)).2 (V 8 2 + (i + 1)) 0 (lnO (rgVal ars V)) from h3)
        refine x_iload_n (pc := 101) dX9_gone_101 rfl rfl ?_
        refine x_bipush (pc := 102) (v := -5) dX9_gone_102 (by decide) ?_
        refine x_icmp_ne (pc := 104) (tgt := 120) dX9_gone_104 (by decide) (fun c104 => ?_) (fun c104 => ?_)
        · skip
          refine x_iinc (pc := 120) (v := nI (i + 1)) (lv' := [(0, .ref lr), (1, .int x), (2, .int (fstV (cauP V (rgVal ars V))  i)), (3, .int (nI i)), (4, .int (nI (i + 1))), (5, .int 0)]) dX9_gone_120 rfl (nI_1 _) (by decide) rfl ?_
          refine x_goto (pc := 123) (tgt := 44) dX9_gone_123 (by decide) ?_
          have h9 := ih (i + 1) (by omega) I2 h3 (fun a ha => by rw [f2.1 a (by omega) (by omega) (by omega)]; exact ff a ha)
          first
          | rw [fstV_keep (p := refP V (rgVal ars V)) (refP_f hm)] at h9
          | rw [fstV_new (p := refP V (rgVal ars V)) (by omega) c88 (refP_t hm)] at h9
          | rw [fstV_new (p := refP V (rgVal ars V)) (by omega) (Decidable.not_not.mp c88) (refP_t hm)] at h9
          | rw [fstV_had (p := refP V (rgVal ars V)) c88] at h9
          first
          | rw [fstV_had (p := cauP V (rgVal ars V)) c104] at h9
          | rw [fstV_new (p := cauP V (rgVal ars V)) (by omega) c104 hh] at h9
          | rw [fstV_new (p := cauP V (rgVal ars V)) (by omega) (Decidable.not_not.mp c104) hh] at h9
          | rw [fstV_keep (p := cauP V (rgVal ars V)) hf] at h9
          exact X.keep [0, 1, 2, 3, 4] rfl h9
        · skip
          refine x_aload_n (pc := 107) dX9_gone_107 rfl rfl ?_
          refine x_getr (pc := 108) dX9_gone_108 kf_RX9_21 hG.g_x rfl hG.g_f2 ?_
          refine x_callV (pc := 111) (As := []) dX9_gone_111 km_X6_isCaught kv_X6_isCaught kl_RX9_190 hG.g_tr.1 rfl rfl (by decide) ⟨Nat.le_refl _, Nat.le_refl _⟩ rfl (Nat.le_of_ble_eq_true rfl) (Nat.le_of_ble_eq_true rfl) (c_isCaught hG.g_tr h3.2.2.2.2.1 v6 (fun i hi => (h3.2.2.2.2.2.2.2.1 i hi).2.2.1) h3.2.2.2.2.2.2.2.2.1 h3.2.2.2.2.2.2.2.2.2.1 (fun hh => ⟨rfl, rfl, ?_⟩) (fun hf => ⟨rfl, rfl, ?_⟩))
          · skip
            refine x_if_eq_f (pc := 114) (tgt := 120) dX9_gone_114 (by decide) (by decide) ?_
            refine x_iload (pc := 117) dX9_gone_117 rfl ?_
            refine x_istore_n (pc := 119) (lv' := [(0, .ref lr), (1, .int x), (2, .int (nI i)), (3, .int (nI i)), (4, .int (nI i)), (5, .int 0)]) dX9_gone_119 rfl (by decide) rfl ?_
            refine x_iinc (pc := 120) (v := nI (i + 1)) (lv' := [(0, .ref lr), (1, .int x), (2, .int (nI i)), (3, .int (nI i)), (4, .int (nI (i + 1))), (5, .int 0)]) dX9_gone_120 rfl (nI_1 _) (by decide) rfl ?_
            refine x_goto (pc := 123) (tgt := 44) dX9_gone_123 (by decide) ?_
            have h9 := ih (i + 1) (by omega) I2 h3 (fun a ha => by rw [f2.1 a (by omega) (by omega) (by omega)]; exact ff a ha)
            first
            | rw [fstV_keep (p := refP V (rgVal ars V)) (refP_f hm)] at h9
            | rw [fstV_new (p := refP V (rgVal ars V)) (by omega) c88 (refP_t hm)] at h9
            | rw [fstV_new (p := refP V (rgVal ars V)) (by omega) (Decidable.not_not.mp c88) (refP_t hm)] at h9
            | rw [fstV_had (p := refP V (rgVal ars V)) c88] at h9
            first
            | rw [fstV_had (p := cauP V (rgVal ars V)) c104] at h9
            | rw [fstV_new (p := cauP V (rgVal ars V)) (by omega) c104 hh] at h9
            | rw [fstV_new (p := cauP V (rgVal ars V)) (by omega) (Decidable.not_not.mp c104) hh] at h9
            | rw [fstV_keep (p := cauP V (rgVal ars V)) hf] at h9
            exact X.keep [0, 1, 2, 3, 4] rfl h9
          · skip
            refine x_if_eq_t (pc := 114) (tgt := 120) dX9_gone_114 (by decide) (by decide) ?_
            refine x_iinc (pc := 120) (v := nI (i + 1)) (lv' := [(0, .ref lr), (1, .int x), (2, .int (fstV (cauP V (rgVal ars V))  i)), (3, .int (nI i)), (4, .int (nI (i + 1))), (5, .int 0)]) dX9_gone_120 rfl (nI_1 _) (by decide) rfl ?_
            refine x_goto (pc := 123) (tgt := 44) dX9_gone_123 (by decide) ?_
            have h9 := ih (i + 1) (by omega) I2 h3 (fun a ha => by rw [f2.1 a (by omega) (by omega) (by omega)]; exact ff a ha)
            first
            | rw [fstV_keep (p := refP V (rgVal ars V)) (refP_f hm)] at h9
            | rw [fstV_new (p := refP V (rgVal ars V)) (by omega) c88 (refP_t hm)] at h9
            | rw [fstV_new (p := refP V (rgVal ars V)) (by omega) (Decidable.not_not.mp c88) (refP_t hm)] at h9
            | rw [fstV_had (p := refP V (rgVal ars V)) c88] at h9
            first
            | rw [fstV_had (p := cauP V (rgVal ars V)) c104] at h9
            | rw [fstV_new (p := cauP V (rgVal ars V)) (by omega) c104 hh] at h9
            | rw [fstV_new (p := cauP V (rgVal ars V)) (by omega) (Decidable.not_not.mp c104) hh] at h9
            | rw [fstV_keep (p := cauP V (rgVal ars V)) hf] at h9
            exact X.keep [0, 1, 2, 3, 4] rfl h9

set_option maxHeartbeats 4000000 in
set_option maxRecDepth 100000 in
theorem c_gone {T : xT} {n : Nat} {sh : Nat → Nat × Nat} {I : xI} {R : xR} {L : xL} {P : xPost} {lr nw im tr rd hu se ac M : Nat} (hG : GEO sh R lr nw im tr rd hu se ac M) {V : xV} {B rc : Nat} {ars : Nat → xAR} (h : FSC I nw V) (hv : VOK V B) (hB : B < 800000) (hr : cRings I lr rc ars) (hV6 : V 8 6 ≤ rc) (hRn : R nw 11 = rgRef V) {x : Int32} (K : ∀ (I2 : xI) (R2 : xR), trP tr I I2 → trR tr R R2 → P (n, sh, 0, 0) I2 R2 L (some (.int (spGone V (rgVal ars V) x))))  : XM T zX9_gone 6 [.ref lr, .int x] n sh I R L P := by
  obtain ⟨v6, v12, v10, vb, vf, vw, vm, vta, vte, vod, vrg, vdi⟩ := id hv
  refine x_aload_n (pc := 0) dX9_gone_0 rfl rfl ?_
  refine x_getr (pc := 1) dX9_gone_1 kf_RX9_12 hG.g_x rfl hG.g_f0 ?_
  refine x_iload_n (pc := 4) dX9_gone_4 rfl rfl ?_
  refine x_callV (pc := 5) (As := [.int _]) dX9_gone_5 km_X6_isBeast kv_X6_isBeast kl_RX9_102 hG.g_nw.1 rfl rfl (by decide) ⟨Nat.le_refl _, Nat.le_refl _⟩ rfl (Nat.le_of_ble_eq_true rfl) (Nat.le_of_ble_eq_true rfl) (c_isBeast hG.g_nw (h.row 2 (by decide)) v6 (fun k hk ek => ⟨rfl, rfl, ?_⟩) (fun h0 => ⟨rfl, rfl, ?_⟩))
  · skip
    have hx : ¬ x = 10 → ¬ x = 11 → ¬ x = 12 → ∃ b : Nat, b < V 8 0 ∧ x = nI b := fun _ _ _ => ⟨k, hk, ek⟩
    refine x_if_ne_t (pc := 8) (tgt := 24) dX9_gone_8 (by decide) (by decide) ?_
    refine x_bipush (pc := 24) (v := -5) dX9_gone_24 (by decide) ?_
    refine x_istore_n (pc := 26) (lv' := [(0, .ref lr), (1, .int x), (2, .int (-5))]) dX9_gone_26 rfl (by decide) rfl ?_
    refine x_bipush (pc := 27) (v := -5) dX9_gone_27 (by decide) ?_
    refine x_istore_n (pc := 29) (lv' := [(0, .ref lr), (1, .int x), (2, .int (-5)), (3, .int (-5))]) dX9_gone_29 rfl (by decide) rfl ?_
    refine x_aload_n (pc := 30) dX9_gone_30 rfl rfl ?_
    refine x_getr (pc := 31) dX9_gone_31 kf_RX9_21 hG.g_x rfl hG.g_f2 ?_
    refine x_aload_n (pc := 34) dX9_gone_34 rfl rfl ?_
    refine x_getr (pc := 35) dX9_gone_35 kf_RX9_12 hG.g_x rfl hG.g_f0 ?_
    refine x_callV (pc := 38) (As := [.ref _]) dX9_gone_38 km_X6_copyFrom kv_X6_copyFrom kl_RX9_197 hG.g_tr.1 rfl rfl (by decide) ⟨Nat.le_refl _, Nat.le_refl _⟩ rfl (Nat.le_of_ble_eq_true rfl) (Nat.le_of_ble_eq_true rfl) (c_scCopy hG.g_tr hG.g_nw (by have e1 := hG.g_e_tr; have e2 := hG.g_e_nw; omega) (fun j hj => ⟨(h.1 j hj).1, vsz_le hv hj⟩) (fun I2 k1 k2 k3 k4 k5 k6 => ⟨rfl, rfl, ?_⟩))
    refine x_iconst (pc := 41) (v := 0) dX9_gone_41 (by decide) ?_
    refine x_istore (pc := 42) (lv' := [(0, .ref lr), (1, .int x), (2, .int (-5)), (3, .int (-5)), (4, .int 0)]) dX9_gone_42 (by decide) rfl ?_
    exact l_gone (hG.keepR (fun a k hk => trR.up a k (Or.inr hk))) (h.keepN hG (fun a ha => k1 a (by omega))) hv hB hx (fun I3 f3 => K I3 _ (fun a ha => (f3 a ha).trans (k1 a (by omega))) trR.up) (V 8 4) 0 (by omega) I2 (h.toTr hG hv hB hr hV6 hRn k1 k2 k3 k4 k5 k6) (fun _ _ => rfl)
  · skip
    refine x_if_ne_f (pc := 8) (tgt := 24) dX9_gone_8 (by decide) (by decide) ?_
    refine x_iload_n (pc := 11) dX9_gone_11 rfl rfl ?_
    refine x_bipush (pc := 12) (v := 10) dX9_gone_12 (by decide) ?_
    refine x_bipush (pc := 14) (v := 12) dX9_gone_14 (by decide) ?_
    refine x_callS (pc := 16) (As := [.int _, .int _, .int _]) dX9_gone_16 km_X9_isWithin ks_X9_isWithin kl_RX9_81 rfl (by decide) ⟨Nat.le_refl _, Nat.le_refl _⟩ rfl (Nat.le_of_ble_eq_true rfl) (Nat.le_of_ble_eq_true rfl) (c_isWithin (fun h1 h2 => ⟨rfl, rfl, ?_⟩) (fun h2 => ⟨rfl, rfl, ?_⟩))
    · skip
      have hx : ¬ x = 10 → ¬ x = 11 → ¬ x = 12 → ∃ b : Nat, b < V 8 0 ∧ x = nI b := fun a b c => ((in_10 h1 h2).elim a (fun q => q.elim b c)).elim
      refine x_if_ne_t (pc := 19) (tgt := 24) dX9_gone_19 (by decide) (by decide) ?_
      refine x_bipush (pc := 24) (v := -5) dX9_gone_24 (by decide) ?_
      refine x_istore_n (pc := 26) (lv' := [(0, .ref lr), (1, .int x), (2, .int (-5))]) dX9_gone_26 rfl (by decide) rfl ?_
      refine x_bipush (pc := 27) (v := -5) dX9_gone_27 (by decide) ?_
      refine x_istore_n (pc := 29) (lv' := [(0, .ref lr), (1, .int x), (2, .int (-5)), (3, .int (-5))]) dX9_gone_29 rfl (by decide) rfl ?_
      refine x_aload_n (pc := 30) dX9_gone_30 rfl rfl ?_
      refine x_getr (pc := 31) dX9_gone_31 kf_RX9_21 hG.g_x rfl hG.g_f2 ?_
      refine x_aload_n (pc := 34) dX9_gone_34 rfl rfl ?_
      refine x_getr (pc := 35) dX9_gone_35 kf_RX9_12 hG.g_x rfl hG.g_f0 ?_
      refine x_callV (pc := 38) (As := [.ref _]) dX9_gone_38 km_X6_copyFrom kv_X6_copyFrom kl_RX9_197 hG.g_tr.1 rfl rfl (by decide) ⟨Nat.le_refl _, Nat.le_refl _⟩ rfl (Nat.le_of_ble_eq_true rfl) (Nat.le_of_ble_eq_true rfl) (c_scCopy hG.g_tr hG.g_nw (by have e1 := hG.g_e_tr; have e2 := hG.g_e_nw; omega) (fun j hj => ⟨(h.1 j hj).1, vsz_le hv hj⟩) (fun I2 k1 k2 k3 k4 k5 k6 => ⟨rfl, rfl, ?_⟩))
      refine x_iconst (pc := 41) (v := 0) dX9_gone_41 (by decide) ?_
      refine x_istore (pc := 42) (lv' := [(0, .ref lr), (1, .int x), (2, .int (-5)), (3, .int (-5)), (4, .int 0)]) dX9_gone_42 (by decide) rfl ?_
      exact l_gone (hG.keepR (fun a k hk => trR.up a k (Or.inr hk))) (h.keepN hG (fun a ha => k1 a (by omega))) hv hB hx (fun I3 f3 => K I3 _ (fun a ha => (f3 a ha).trans (k1 a (by omega))) trR.up) (V 8 4) 0 (by omega) I2 (h.toTr hG hv hB hr hV6 hRn k1 k2 k3 k4 k5 k6) (fun _ _ => rfl)
    · skip
      refine x_if_ne_f (pc := 19) (tgt := 24) dX9_gone_19 (by decide) (by decide) ?_
      refine x_iconst (pc := 22) (v := -1) dX9_gone_22 (by decide) ?_
      refine x_ireturn (pc := 23) dX9_gone_23 ⟨_, rfl, rfl⟩ ⟨Nat.le_refl _, Nat.le_refl _⟩ ?_
      have h9 := K I R (fun _ _ => rfl) trR.rf
      rw [spGone_n h0 h2] at h9
      exact h9

