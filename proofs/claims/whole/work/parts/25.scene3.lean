/-! ===== Scene: what one does ===== -/
abbrev xLN : Type := Nat → Nat → Nat → Nat → Nat → Nat × Nat
/-- what a RING's clauses come to, for the class -/
def rgEval (I : xI) (rg : Nat) (LN : xLN) : Prop := ∃ m : Nat, m ≤ 100 ∧ I (rg + 1) 1 = nI m ∧ I (rg + 3) 1 = nI m ∧ I (rg + 5) 1 = nI m ∧ ∀ (f : Nat → Int32) (a1 a2 a3 a4 a5 : Nat), f 0 = nI a1 → f 1 = nI a2 → f 2 = nI a3 → f 3 = nI a4 → f 4 = nI a5 → a1 < 100 → a2 < 100 → a3 < 100 → a4 < 100 → a5 < 100 →
  (foldC f (I (rg + 2)) (I (rg + 4)) (I (rg + 6)) 0 0 m).2 = (nI (LN a1 a2 a3 a4 a5).1, nI (LN a1 a2 a3 a4 a5).2) ∧ (LN a1 a2 a3 a4 a5).1 < 100000 ∧ (LN a1 a2 a3 a4 a5).2 < 100000
def scLines (sh : Nat → Nat × Nat) (R : xR) (I : xI) (b : Nat) (LN : xLN) : Prop := (R b 11 = none ∧ ∀ a1 a2 a3 a4 a5, LN a1 a2 a3 a4 a5 = (0, 0)) ∨ ∃ rg, R b 11 = some rg ∧ xRing sh R rg ∧ rgEval I rg LN
def SC (sh : Nat → Nat × Nat) (R : xR) (I : xI) (b nb : Nat) (ki ve ce sto hu : Nat → Nat) (ta te lo : Nat) (LN : xLN) : Prop := xScene sh R b ∧ nb ≤ 6 ∧ bRow I (b + 1) nb ki ∧ bRow I (b + 3) nb ve ∧ bRow I (b + 5) nb ce ∧ bRow I (b + 7) nb sto ∧ bRow I (b + 9) nb hu ∧ (∀ i, i < nb → ki i < 7 ∧ ve i < 10 ∧ ce i < 36 ∧ sto i < 36 ∧ hu i < 10) ∧ I b 8 = nI ta ∧ ta < 36 ∧ I b 9 = nI te ∧ te < 1000000 ∧ I b 12 = nI lo ∧ lo < 100 ∧ scLines sh R I b LN
theorem rgEval.keep {sh : Nat → Nat × Nat} {R : xR} {I I' : xI} {rg : Nat} {LN : xLN} (hr : xRing sh R rg) (h : rgEval I rg LN) (hk : ∀ a, sh a ≠ (0, 2) → sh a ≠ (0, 6) → I' a = I a) : rgEval I' rg LN := by
  obtain ⟨r1, r2, r3, r4, r5, r6, r7⟩ := hr
  have k : ∀ a u, sh a = u → u ≠ (0, 2) → u ≠ (0, 6) → I' a = I a := fun a u h1 h2 h3 => hk a (by rw [h1]; exact h2) (by rw [h1]; exact h3)
  unfold rgEval at h ⊢
  rw [k (rg + 1) _ r5.1 (by decide) (by decide), k (rg + 2) _ r5.2.2.1 (by decide) (by decide), k (rg + 3) _ r6.1 (by decide) (by decide), k (rg + 4) _ r6.2.2.1 (by decide) (by decide), k (rg + 5) _ r7.1 (by decide) (by decide), k (rg + 6) _ r7.2.2.1 (by decide) (by decide)]
  exact h
/-- a scene stays what it is when its look, and its aim, change -/
theorem SC.keep {sh : Nat → Nat × Nat} {R : xR} {I I' : xI} {b nb ta te lo : Nat} {ki ve ce sto hu : Nat → Nat} {LN : xLN} (h : SC sh R I b nb ki ve ce sto hu ta te lo LN) (h1 : ∀ a, a ≠ b + 17 → a ≠ b → I' a = I a) (h2 : ∀ k, k ≠ 14 → I' b k = I b k) : SC sh R I' b nb ki ve ce sto hu ta te lo LN := by
  obtain ⟨a1, a2, a3, a4, a5, a6, a7, a8, a9, a10, a11, a12, a13, a14, a15⟩ := h
  have k : ∀ j, 0 < j → j ≠ 17 → I' (b + j) = I (b + j) := fun j hj h17 => h1 _ (by omega) (by omega)
  have kr : ∀ j f, 0 < j → j ≠ 17 → j + 1 ≠ 17 → bRow I (b + j) nb f → bRow I' (b + j) nb f := fun j f p1 p2 p3 hh => hh.keep (k j p1 p2) (k (j + 1) (by omega) p3)
  refine ⟨a1, a2, kr 1 _ (by omega) (by omega) (by omega) a3, kr 3 _ (by omega) (by omega) (by omega) a4, kr 5 _ (by omega) (by omega) (by omega) a5, kr 7 _ (by omega) (by omega) (by omega) a6, kr 9 _ (by omega) (by omega) (by omega) a7, a8, by rw [h2 8 (by decide)]; exact a9, a10, by rw [h2 9 (by decide)]; exact a11, a12, by rw [h2 12 (by decide)]; exact a13, a14, ?_⟩
  rcases a15 with ⟨q1, q2⟩ | ⟨rg, q1, q2, q3⟩
  · exact Or.inl ⟨q1, q2⟩
  · refine Or.inr ⟨rg, q1, q2, q3.keep q2 (fun a p1 p2 => h1 a (fun q => p1 ?_) (fun q => p2 ?_))⟩
    · rw [q]; exact a1.2.1
    · rw [q]; exact a1.1
theorem xlk_id {I : xI} {b : Nat} {y c : Int32} (h5 : I b 5 = y) (h6 : I b 6 = c) : xlk I b y c = I := by
  subst h5 h6
  exact xlk_self
def cm (y c : Nat) : Nat := if y = 0 then 0 else mn c (y - 1)
theorem xmin9 {a : Nat} (ha : a < 2 ^ 31) : (if (9 : Int32) < nI a then 9 else nI a) = nI (mn a 9) := xmin_n ha (b := 9) (by decide)
theorem mn_le {a b : Nat} : mn a b ≤ b := by unfold mn; split <;> omega
theorem mn_le' {a b : Nat} : mn a b ≤ a := by unfold mn; split <;> omega
theorem cm_le {y c : Nat} : cm y c ≤ c := by unfold cm; split; omega; exact mn_le'
theorem xcm {y c : Nat} (hy : y < 2 ^ 30) (hc : c < 2 ^ 30) : (if (0 : Int32) < (if nI y - 1 < nI c then nI y - 1 else nI c) then (if nI y - 1 < nI c then nI y - 1 else nI c) else 0) = nI (cm y c) := by
  unfold cm
  by_cases h : y = 0
  · rw [if_pos h, h]
    have e : nI 0 - 1 = -1 := by decide
    have e2 : (-1 : Int32) < nI c := by
      have h1 := nI_pos' (n := c) (by omega)
      have h2 := Int32.le_iff_toInt_le.mp h1
      exact Int32.lt_iff_toInt_lt.mpr (Int.lt_of_lt_of_le (by decide) h2)
    rw [e, if_pos e2, if_neg (by decide)]
    rfl
  · rw [if_neg h]
    have e : nI y - 1 = nI (y - 1) := pk_sub (b := 1) (by omega)
    rw [e]
    have e3 : (if nI (y - 1) < nI c then nI (y - 1) else nI c) = nI (mn c (y - 1)) := xmin_n (by omega) (by omega)
    rw [e3]
    have h0 : (0 : Int32) = nI 0 := rfl
    rw [h0]
    have hm : mn c (y - 1) < 2 ^ 31 := Nat.lt_of_le_of_lt mn_le' (by omega)
    by_cases h2 : 0 < mn c (y - 1)
    · rw [if_pos ((nI_ltI (by decide) hm).mpr h2)]
    · rw [if_neg (fun q => h2 ((nI_ltI (by decide) hm).mp q)), show mn c (y - 1) = 0 by omega]
def lnAt (LN : xLN) (nb : Nat) (ce hu : Nat → Nat) (te bi : Nat) : Nat × Nat := LN bi (hu bi) (nearN nb ce bi) (shutN nb ce (ce bi)) (te % 60)
def ylOf (s : Nat × Nat) (lo : Nat) : Nat := mn s.1 9 + lo
def clOf (s : Nat × Nat) (k v lo : Nat) : Nat := cm (mn s.1 9) s.2 + (if isOne k 2 = true then v else 0) + lo
set_option maxHeartbeats 4000000 in
set_option maxRecDepth 100000 in
theorem l_lookTail {T : xT} {n : Nat} {sh : Nat → Nat × Nat} {R : xR} {L : xL} {P : xPost} {b nb ta te lo : Nat} {ki ve ce sto hu : Nat → Nat} {LN : xLN} {bi ys cs : Nat} {J : xI} (hS : xScene sh R b) (hn6 : nb ≤ 6) (hki : bRow J (b + 1) nb ki) (hve : bRow J (b + 3) nb ve) (hbd : ∀ i, i < nb → ki i < 7 ∧ ve i < 10 ∧ ce i < 36 ∧ sto i < 36 ∧ hu i < 10) (hlo : J b 12 = nI lo) (hlo2 : lo < 100) (hb : bi < nb) (hys : ys < 100000) (hcs : cs < 100000) (K : P (n, sh, 0, 0) (xlk J (b + 17) (nI (ylOf (ys, cs) lo)) (nI (clOf (ys, cs) (ki bi) (ve bi) lo))) R L none) : X T zX6_lookAt 3 0 0 P 102 [(0, .ref b), (1, .int (nI bi))] [] (n, sh, 0, 0) (xlk J (b + 17) (nI ys) (nI cs)) R L := by
  have hS0 := hS
  obtain ⟨s0, sl, rl, f0, f1, f2, f3, f4, f5, f6, f7, w0, w1, w2, w3, w4, w5, w6, w7⟩ := hS
  obtain ⟨hk7, hv10, -⟩ := hbd bi hb
  have n0 : ∀ y z, xlk J (b + 17) y z b = J b := fun y z => xlk_ne (by omega)
  have n1 : ∀ y z, xlk J (b + 17) y z (b + 1) = J (b + 1) := fun y z => xlk_ne (by omega)
  have n2 : ∀ y z, xlk J (b + 17) y z (b + 2) = J (b + 2) := fun y z => xlk_ne (by omega)
  have n3 : ∀ y z, xlk J (b + 17) y z (b + 3) = J (b + 3) := fun y z => xlk_ne (by omega)
  have n4 : ∀ y z, xlk J (b + 17) y z (b + 4) = J (b + 4) := fun y z => xlk_ne (by omega)
  have hm9 : mn ys 9 ≤ 9 := mn_le
  have hcm : cm (mn ys 9) cs ≤ cs := cm_le
  refine x_aload_n (pc := 102) dX6_lookAt_102 rfl rfl ?_
  refine x_getr (pc := 103) dX6_lookAt_103 kf_RX6_61 s0 rfl rl ?_
  refine x_aload_n (pc := 106) dX6_lookAt_106 rfl rfl ?_
  refine x_getr (pc := 107) dX6_lookAt_107 kf_RX6_61 s0 rfl rl ?_
  refine x_get (pc := 110) dX6_lookAt_110 kf_RX6_126 sl rfl ?_
  rw [xlk_5]
  refine x_bipush (pc := 113) (v := 9) dX6_lookAt_113 (by decide) ?_
  refine x_min (pc := 115) (by decide) ⟨Nat.le_refl _, Nat.le_refl _⟩ kw_min kl_RX6_138 dX6_lookAt_115 (Nat.le_of_ble_eq_true rfl) ?_
  rw [xmin9 (by omega)]
  refine x_put (pc := 118) dX6_lookAt_118 kf_RX6_126 sl rfl (Or.inl kb_2_5) ?_
  rw [xlk_y]
  refine x_aload_n (pc := 121) dX6_lookAt_121 rfl rfl ?_
  refine x_getr (pc := 122) dX6_lookAt_122 kf_RX6_61 s0 rfl rl ?_
  refine x_iconst (pc := 125) (v := 0) dX6_lookAt_125 (by decide) ?_
  refine x_aload_n (pc := 126) dX6_lookAt_126 rfl rfl ?_
  refine x_getr (pc := 127) dX6_lookAt_127 kf_RX6_61 s0 rfl rl ?_
  refine x_get (pc := 130) dX6_lookAt_130 kf_RX6_129 sl rfl ?_
  rw [xlk_6]
  refine x_aload_n (pc := 133) dX6_lookAt_133 rfl rfl ?_
  refine x_getr (pc := 134) dX6_lookAt_134 kf_RX6_61 s0 rfl rl ?_
  refine x_get (pc := 137) dX6_lookAt_137 kf_RX6_126 sl rfl ?_
  rw [xlk_5]
  refine x_iconst (pc := 140) (v := 1) dX6_lookAt_140 (by decide) ?_
  refine x_isub (pc := 141) dX6_lookAt_141 ?_
  refine x_min (pc := 142) (by decide) ⟨Nat.le_refl _, Nat.le_refl _⟩ kw_min kl_RX6_138 dX6_lookAt_142 (Nat.le_of_ble_eq_true rfl) ?_
  refine x_max (pc := 145) (by decide) ⟨Nat.le_refl _, Nat.le_refl _⟩ kw_max kl_RX6_143 dX6_lookAt_145 (Nat.le_of_ble_eq_true rfl) ?_
  rw [xcm (by omega) (by omega)]
  refine x_put (pc := 148) dX6_lookAt_148 kf_RX6_129 sl rfl (Or.inl kb_2_6) ?_
  rw [xlk_c]
  refine x_aload_n (pc := 151) dX6_lookAt_151 rfl rfl ?_
  refine x_getr (pc := 152) dX6_lookAt_152 kf_RX6_14 s0 rfl f0 ?_
  refine x_iload_n (pc := 155) dX6_lookAt_155 rfl rfl ?_
  refine x_callV (pc := 156) (As := [.int _]) dX6_lookAt_156 km_X5_at kv_X5_at kl_RX6_89 w0.1 rfl rfl (by decide) ⟨Nat.le_refl _, Nat.le_refl _⟩ rfl (Nat.le_of_ble_eq_true rfl) (Nat.le_of_ble_eq_true rfl) (c_at w0 (⟨rfl, rfl, ?_⟩))
  rw [n1, n2, hki.1, rAt_in hb hn6 (by omega), hki.2 _ hb]
  refine x_iconst (pc := 159) (v := 2) dX6_lookAt_159 (by decide) ?_
  refine x_callSN (pc := 160) (As := [.int _, .int _]) dX6_lookAt_160 km_X9_isOneOf ks_X9_isOneOf kn_RX6_146 rfl (by decide) ⟨Nat.le_refl _, Nat.le_refl _⟩ rfl (Nat.le_of_ble_eq_true rfl) (Nat.le_of_ble_eq_true rfl) (c_isOneOf (o := 2) hk7 (by decide) (fun hone => ⟨rfl, rfl, ?_⟩) (fun hnone => ⟨rfl, rfl, ?_⟩))
  · skip
    refine x_if_eq_f (pc := 163) (tgt := 186) dX6_lookAt_163 (by decide) (by decide) ?_
    refine x_aload_n (pc := 166) dX6_lookAt_166 rfl rfl ?_
    refine x_getr (pc := 167) dX6_lookAt_167 kf_RX6_61 s0 rfl rl ?_
    refine x_dup (pc := 170) dX6_lookAt_170 rfl ?_
    refine x_get (pc := 171) dX6_lookAt_171 kf_RX6_129 sl rfl ?_
    rw [xlk_6]
    refine x_aload_n (pc := 174) dX6_lookAt_174 rfl rfl ?_
    refine x_getr (pc := 175) dX6_lookAt_175 kf_RX6_20 s0 rfl f1 ?_
    refine x_iload_n (pc := 178) dX6_lookAt_178 rfl rfl ?_
    refine x_callV (pc := 179) (As := [.int _]) dX6_lookAt_179 km_X5_at kv_X5_at kl_RX6_89 w1.1 rfl rfl (by decide) ⟨Nat.le_refl _, Nat.le_refl _⟩ rfl (Nat.le_of_ble_eq_true rfl) (Nat.le_of_ble_eq_true rfl) (c_at w1 (⟨rfl, rfl, ?_⟩))
    rw [n3, n4, hve.1, rAt_in hb hn6 (by omega), hve.2 _ hb]
    refine x_iaddn (pc := 182) (a := (cm (mn ys 9) cs)) (b := (ve bi)) dX6_lookAt_182 ?_
    refine x_put (pc := 183) dX6_lookAt_183 kf_RX6_129 sl rfl (Or.inl kb_2_6) ?_
    rw [xlk_c]
    refine x_aload_n (pc := 186) dX6_lookAt_186 rfl rfl ?_
    refine x_getr (pc := 187) dX6_lookAt_187 kf_RX6_61 s0 rfl rl ?_
    refine x_dup (pc := 190) dX6_lookAt_190 rfl ?_
    refine x_get (pc := 191) dX6_lookAt_191 kf_RX6_126 sl rfl ?_
    rw [xlk_5]
    refine x_aload_n (pc := 194) dX6_lookAt_194 rfl rfl ?_
    refine x_get (pc := 195) dX6_lookAt_195 kf_RX6_55 s0 rfl ?_
    rw [n0, hlo]
    refine x_iaddn (pc := 198) (a := (mn ys 9)) (b := lo) dX6_lookAt_198 ?_
    refine x_put (pc := 199) dX6_lookAt_199 kf_RX6_126 sl rfl (Or.inl kb_2_5) ?_
    rw [xlk_y]
    refine x_aload_n (pc := 202) dX6_lookAt_202 rfl rfl ?_
    refine x_getr (pc := 203) dX6_lookAt_203 kf_RX6_61 s0 rfl rl ?_
    refine x_dup (pc := 206) dX6_lookAt_206 rfl ?_
    refine x_get (pc := 207) dX6_lookAt_207 kf_RX6_129 sl rfl ?_
    rw [xlk_6]
    refine x_aload_n (pc := 210) dX6_lookAt_210 rfl rfl ?_
    refine x_get (pc := 211) dX6_lookAt_211 kf_RX6_55 s0 rfl ?_
    rw [n0, hlo]
    refine x_iaddn (pc := 214) (a := (cm (mn ys 9) cs + ve bi)) (b := lo) dX6_lookAt_214 ?_
    refine x_put (pc := 215) dX6_lookAt_215 kf_RX6_129 sl rfl (Or.inl kb_2_6) ?_
    refine x_return (pc := 218) dX6_lookAt_218 rfl ⟨Nat.le_refl _, Nat.le_refl _⟩ ?_
    simp only [xlk_y, xlk_c]
    unfold ylOf clOf at K
    rw [hone] at K
    simp only [if_true, ↓reduceIte] at K
    exact K
  · skip
    refine x_if_eq_t (pc := 163) (tgt := 186) dX6_lookAt_163 (by decide) (by decide) ?_
    refine x_aload_n (pc := 186) dX6_lookAt_186 rfl rfl ?_
    refine x_getr (pc := 187) dX6_lookAt_187 kf_RX6_61 s0 rfl rl ?_
    refine x_dup (pc := 190) dX6_lookAt_190 rfl ?_
    refine x_get (pc := 191) dX6_lookAt_191 kf_RX6_126 sl rfl ?_
    rw [xlk_5]
    refine x_aload_n (pc := 194) dX6_lookAt_194 rfl rfl ?_
    refine x_get (pc := 195) dX6_lookAt_195 kf_RX6_55 s0 rfl ?_
    rw [n0, hlo]
    refine x_iaddn (pc := 198) (a := (mn ys 9)) (b := lo) dX6_lookAt_198 ?_
    refine x_put (pc := 199) dX6_lookAt_199 kf_RX6_126 sl rfl (Or.inl kb_2_5) ?_
    rw [xlk_y]
    refine x_aload_n (pc := 202) dX6_lookAt_202 rfl rfl ?_
    refine x_getr (pc := 203) dX6_lookAt_203 kf_RX6_61 s0 rfl rl ?_
    refine x_dup (pc := 206) dX6_lookAt_206 rfl ?_
    refine x_get (pc := 207) dX6_lookAt_207 kf_RX6_129 sl rfl ?_
    rw [xlk_6]
    refine x_aload_n (pc := 210) dX6_lookAt_210 rfl rfl ?_
    refine x_get (pc := 211) dX6_lookAt_211 kf_RX6_55 s0 rfl ?_
    rw [n0, hlo]
    refine x_iaddn (pc := 214) (a := (cm (mn ys 9) cs)) (b := lo) dX6_lookAt_214 ?_
    refine x_put (pc := 215) dX6_lookAt_215 kf_RX6_129 sl rfl (Or.inl kb_2_6) ?_
    refine x_return (pc := 218) dX6_lookAt_218 rfl ⟨Nat.le_refl _, Nat.le_refl _⟩ ?_
    simp only [xlk_y, xlk_c]
    unfold ylOf clOf at K
    rw [hnone] at K
    simp only [Bool.false_eq_true, if_false, ↓reduceIte, Nat.add_zero] at K
    exact K

set_option maxHeartbeats 4000000 in
set_option maxRecDepth 100000 in
theorem c_lookAt {T : xT} {n : Nat} {sh : Nat → Nat × Nat} {I : xI} {R : xR} {L : xL} {P : xPost} {b nb ta te lo : Nat} {ki ve ce sto hu : Nat → Nat} {LN : xLN} {bi : Nat} (h : SC sh R I b nb ki ve ce sto hu ta te lo LN) (hb : bi < nb) (K : ∀ I2 : xI, (∀ a, a ≠ b + 17 → I2 a = I a) → I2 (b + 17) 5 = nI (ylOf (lnAt LN nb ce hu te bi) lo) → I2 (b + 17) 6 = nI (clOf (lnAt LN nb ce hu te bi) (ki bi) (ve bi) lo) → P (n, sh, 0, 0) I2 R L none) : XM T zX6_lookAt 3 [.ref b, .int (nI bi)] n sh I R L P := by
  obtain ⟨hS, hn6, hki, hve, hc, hsto, hhu, hbd, hta, ht, hte, hte2, hlo, hlo2, hln⟩ := h
  have hS0 := hS
  obtain ⟨s0, sl, rl, f0, f1, f2, f3, f4, f5, f6, f7, w0, w1, w2, w3, w4, w5, w6, w7⟩ := hS
  have k1 : ∀ (J : xI) i z, up2 J (b + 17) i z (b + 1) = J (b + 1) := fun J i z => up2_row (by omega)
  have k2 : ∀ (J : xI) i z, up2 J (b + 17) i z (b + 2) = J (b + 2) := fun J i z => up2_row (by omega)
  have k3 : ∀ (J : xI) i z, up2 J (b + 17) i z (b + 3) = J (b + 3) := fun J i z => up2_row (by omega)
  have k4 : ∀ (J : xI) i z, up2 J (b + 17) i z (b + 4) = J (b + 4) := fun J i z => up2_row (by omega)
  have k5 : ∀ (J : xI) i z, up2 J (b + 17) i z (b + 5) = J (b + 5) := fun J i z => up2_row (by omega)
  have k6 : ∀ (J : xI) i z, up2 J (b + 17) i z (b + 6) = J (b + 6) := fun J i z => up2_row (by omega)
  have k9 : ∀ (J : xI) i z, up2 J (b + 17) i z (b + 9) = J (b + 9) := fun J i z => up2_row (by omega)
  have k10 : ∀ (J : xI) i z, up2 J (b + 17) i z (b + 10) = J (b + 10) := fun J i z => up2_row (by omega)
  have kb : ∀ (J : xI) i z, up2 J (b + 17) i z b = J b := fun J i z => up2_row (by omega)
  have hcb := (hbd _ hb).2.2.1
  have hub := (hbd _ hb).2.2.2.2
  have hce : ∀ i, i < nb → ce i < 36 := fun i hi => (hbd i hi).2.2.1
  refine x_aload_n (pc := 0) dX6_lookAt_0 rfl rfl ?_
  refine x_getr (pc := 1) dX6_lookAt_1 kf_RX6_61 s0 rfl rl ?_
  refine x_iload_n (pc := 4) dX6_lookAt_4 rfl rfl ?_
  refine x_put (pc := 5) dX6_lookAt_5 kf_RX6_106 sl rfl (Or.inl kb_2_0) ?_
  refine x_aload_n (pc := 8) dX6_lookAt_8 rfl rfl ?_
  refine x_getr (pc := 9) dX6_lookAt_9 kf_RX6_61 s0 rfl rl ?_
  refine x_aload_n (pc := 12) dX6_lookAt_12 rfl rfl ?_
  refine x_getr (pc := 13) dX6_lookAt_13 kf_RX6_29 s0 rfl f4 ?_
  refine x_iload_n (pc := 16) dX6_lookAt_16 rfl rfl ?_
  refine x_callV (pc := 17) (As := [.int _]) dX6_lookAt_17 km_X5_at kv_X5_at kl_RX6_89 w4.1 rfl rfl (by decide) ⟨Nat.le_refl _, Nat.le_refl _⟩ rfl (Nat.le_of_ble_eq_true rfl) (Nat.le_of_ble_eq_true rfl) (c_at w4 (⟨rfl, rfl, ?_⟩))
  simp only [k9, k10]
  rw [hhu.1, rAt_in hb hn6 (by omega), hhu.2 _ hb]
  refine x_put (pc := 20) dX6_lookAt_20 kf_RX6_109 sl rfl (Or.inl kb_2_1) ?_
  refine x_aload_n (pc := 23) dX6_lookAt_23 rfl rfl ?_
  refine x_getr (pc := 24) dX6_lookAt_24 kf_RX6_61 s0 rfl rl ?_
  refine x_aload_n (pc := 27) dX6_lookAt_27 rfl rfl ?_
  refine x_iload_n (pc := 28) dX6_lookAt_28 rfl rfl ?_
  refine x_callV (pc := 29) (As := [.int _]) dX6_lookAt_29 km_X6_nearOnes kv_X6_nearOnes kl_RX6_111 s0 rfl rfl (by decide) ⟨Nat.le_refl _, Nat.le_refl _⟩ rfl (Nat.le_of_ble_eq_true rfl) (Nat.le_of_ble_eq_true rfl) (c_nearOnes hS0 (hc.keep (by simp only [k5]) (by simp only [k6])) hn6 hce hb (⟨rfl, rfl, ?_⟩))
  refine x_put (pc := 32) dX6_lookAt_32 kf_RX6_114 sl rfl (Or.inl kb_2_2) ?_
  refine x_aload_n (pc := 35) dX6_lookAt_35 rfl rfl ?_
  refine x_getr (pc := 36) dX6_lookAt_36 kf_RX6_61 s0 rfl rl ?_
  refine x_aload_n (pc := 39) dX6_lookAt_39 rfl rfl ?_
  refine x_aload_n (pc := 40) dX6_lookAt_40 rfl rfl ?_
  refine x_getr (pc := 41) dX6_lookAt_41 kf_RX6_23 s0 rfl f2 ?_
  refine x_iload_n (pc := 44) dX6_lookAt_44 rfl rfl ?_
  refine x_callV (pc := 45) (As := [.int _]) dX6_lookAt_45 km_X5_at kv_X5_at kl_RX6_89 w2.1 rfl rfl (by decide) ⟨Nat.le_refl _, Nat.le_refl _⟩ rfl (Nat.le_of_ble_eq_true rfl) (Nat.le_of_ble_eq_true rfl) (c_at w2 (⟨rfl, rfl, ?_⟩))
  simp only [k5, k6]
  rw [hc.1, rAt_in hb hn6 (by omega), hc.2 _ hb]
  refine x_callV (pc := 48) (As := [.int _]) dX6_lookAt_48 km_X6_shutSides kv_X6_shutSides kl_RX6_117 s0 rfl rfl (by decide) ⟨Nat.le_refl _, Nat.le_refl _⟩ rfl (Nat.le_of_ble_eq_true rfl) (Nat.le_of_ble_eq_true rfl) (c_shutSides hS0 (hc.keep (by simp only [k5]) (by simp only [k6])) hn6 hce hcb (⟨rfl, rfl, ?_⟩))
  refine x_put (pc := 51) dX6_lookAt_51 kf_RX6_120 sl rfl (Or.inl kb_2_3) ?_
  refine x_aload_n (pc := 54) dX6_lookAt_54 rfl rfl ?_
  refine x_getr (pc := 55) dX6_lookAt_55 kf_RX6_61 s0 rfl rl ?_
  refine x_aload_n (pc := 58) dX6_lookAt_58 rfl rfl ?_
  refine x_get (pc := 59) dX6_lookAt_59 kf_RX6_45 s0 rfl ?_
  simp only [kb]
  rw [hte]
  refine x_bipush (pc := 62) (v := 60) dX6_lookAt_62 (by decide) ?_
  refine x_iremn (pc := 64) (a := te) (b := 60) dX6_lookAt_64 (by omega) (by decide) (by decide) ?_
  refine x_put (pc := 65) dX6_lookAt_65 kf_RX6_123 sl rfl (Or.inl kb_2_4) ?_
  refine x_aload_n (pc := 68) dX6_lookAt_68 rfl rfl ?_
  refine x_getr (pc := 69) dX6_lookAt_69 kf_RX6_61 s0 rfl rl ?_
  refine x_iconst (pc := 72) (v := 0) dX6_lookAt_72 (by decide) ?_
  refine x_put (pc := 73) dX6_lookAt_73 kf_RX6_126 sl rfl (Or.inl kb_2_5) ?_
  refine x_aload_n (pc := 76) dX6_lookAt_76 rfl rfl ?_
  refine x_getr (pc := 77) dX6_lookAt_77 kf_RX6_61 s0 rfl rl ?_
  refine x_iconst (pc := 80) (v := 0) dX6_lookAt_80 (by decide) ?_
  refine x_put (pc := 81) dX6_lookAt_81 kf_RX6_129 sl rfl (Or.inl kb_2_6) ?_
  generalize hJ : up2 (up2 (up2 (up2 (up2 (up2 (up2 I (b + 17) 0 (nI bi)) (b + 17) 1 (nI (hu bi))) (b + 17) 2 (nI (nearN nb ce bi))) (b + 17) 3 (nI (shutN nb ce (ce bi)))) (b + 17) 4 (nI (te % 60))) (b + 17) 5 0) (b + 17) 6 0 = J
  have jn : ∀ a, a ≠ b + 17 → J a = I a := fun a ha => by rw [← hJ]; simp only [up2_row ha]
  have j0 : J (b + 17) 0 = nI bi := by rw [← hJ]; simp [up2]
  have j1 : J (b + 17) 1 = nI (hu bi) := by rw [← hJ]; simp [up2]
  have j2 : J (b + 17) 2 = nI (nearN nb ce bi) := by rw [← hJ]; simp [up2]
  have j3 : J (b + 17) 3 = nI (shutN nb ce (ce bi)) := by rw [← hJ]; simp [up2]
  have j4 : J (b + 17) 4 = nI (te % 60) := by rw [← hJ]; simp [up2]
  have j5 : J (b + 17) 5 = 0 := by rw [← hJ]; simp [up2]
  have j6 : J (b + 17) 6 = 0 := by rw [← hJ]; simp [up2]
  rcases hln with ⟨g1, g2⟩ | ⟨rg, g1, gr, ge⟩
  · skip
    refine x_aload_n (pc := 84) dX6_lookAt_84 rfl rfl ?_
    refine x_getN (pc := 85) dX6_lookAt_85 kf_RX6_51 s0 rfl g1 ?_
    refine x_ifnullN (pc := 88) (tgt := 102) dX6_lookAt_88 (by decide) ?_
    have g3 := g2 bi (hu bi) (nearN nb ce bi) (shutN nb ce (ce bi)) (te % 60)
    refine X.heap (xlk_id (y := nI 0) (c := nI 0) j5 j6).symm ?_
    refine l_lookTail (J := J) (ta := ta) (te := te) (LN := LN) hS0 hn6 (hki.keep (jn _ (by omega)) (jn _ (by omega))) (hve.keep (jn _ (by omega)) (jn _ (by omega))) hbd (by rw [jn _ (by omega)]; exact hlo) hlo2 hb (ys := 0) (cs := 0) (by decide) (by decide) ?_
    unfold lnAt at K
    rw [g3] at K
    exact (K _ (fun a ha => (xlk_ne ha).trans (jn a ha)) xlk_5 xlk_6)
  · skip
    have gj := ge.keep (I' := J) gr (fun a p1 p2 => jn a (fun q => p1 (by rw [q]; exact sl)))
    obtain ⟨m, em, e1, e2, e3, e4⟩ := gj
    have hn7 : nearN nb ce bi < 100 := Nat.lt_of_le_of_lt (cnt_le nb) (by omega)
    have hs7 : shutN nb ce (ce bi) < 100 := Nat.lt_of_le_of_lt (cnt_le 4) (by omega)
    have ht60 : te % 60 < 60 := Nat.mod_lt _ (by decide)
    obtain ⟨e5, e7, e8⟩ := e4 (J (b + 17)) bi (hu bi) (nearN nb ce bi) (shutN nb ce (ce bi)) (te % 60) j0 j1 j2 j3 j4 (by omega) (by omega) hn7 hs7 (by omega)
    refine x_aload_n (pc := 84) dX6_lookAt_84 rfl rfl ?_
    refine x_getr (pc := 85) dX6_lookAt_85 kf_RX6_51 s0 rfl g1 ?_
    refine x_ifnull (pc := 88) dX6_lookAt_88 ?_
    refine x_aload_n (pc := 91) dX6_lookAt_91 rfl rfl ?_
    refine x_getr (pc := 92) dX6_lookAt_92 kf_RX6_51 s0 rfl g1 ?_
    refine x_aload_n (pc := 95) dX6_lookAt_95 rfl rfl ?_
    refine x_getr (pc := 96) dX6_lookAt_96 kf_RX6_61 s0 rfl rl ?_
    refine x_callV (pc := 99) (As := [.ref _]) dX6_lookAt_99 km_X4_addTo kv_X4_addTo kl_RX6_132 gr.1 rfl rfl (by decide) ⟨Nat.le_refl _, Nat.le_refl _⟩ rfl (Nat.le_of_ble_eq_true rfl) (Nat.le_of_ble_eq_true rfl) (c_addTo gr sl e1 e2 e3 em (⟨rfl, rfl, ?_⟩))
    rw [j5, j6, e5]
    exact l_lookTail (J := J) (ta := ta) (te := te) (LN := LN) hS0 hn6 (hki.keep (jn _ (by omega)) (jn _ (by omega))) (hve.keep (jn _ (by omega)) (jn _ (by omega))) hbd (by rw [jn _ (by omega)]; exact hlo) hlo2 hb e7 e8 (K _ (fun a ha => (xlk_ne ha).trans (jn a ha)) xlk_5 xlk_6)

