/-! ===== the whole class: how it lies; a scene's values ===== -/
def GEO (sh : Nat → Nat × Nat) (R : xR) (lr nw im tr rd hu se ac M : Nat) : Prop := lr = 0 ∧ nw = 1 ∧ im = 19 ∧ tr = 37 ∧ rd = 55 ∧ hu = 66 ∧ se = 72 ∧ ac = 79 ∧ M = 137 ∧ sh lr = (0, 9) ∧ R lr 0 = some nw ∧ R lr 1 = some im ∧ R lr 2 = some tr ∧ R lr 4 = some rd ∧ R lr 5 = some 65 ∧ R lr 7 = some hu ∧ R lr 8 = some se ∧ R lr 9 = some ac ∧ R lr 10 = some 82 ∧ xScene sh R nw ∧ xScene sh R im ∧ xScene sh R tr ∧ sh rd = (0, 3) ∧ R rd 0 = some (rd + 1) ∧ R rd 1 = some (rd + 3) ∧ xRow sh R (rd + 1) (rd + 2) 100 ∧ xRing sh R (rd + 3) ∧ sh 65 = (4, 6) ∧ (∀ i, i < 6 → R 65 i = some (83 + 7 * i)) ∧ (∀ i, i < 6 → xRing sh R (83 + 7 * i)) ∧ sh hu = (0, 1) ∧ R hu 0 = some (hu + 1) ∧ sh (hu + 1) = (3, 781) ∧ R hu 1 = some (hu + 2) ∧ R hu 2 = some (hu + 4) ∧ xRow sh R (hu + 2) (hu + 3) 781 ∧ xRow sh R (hu + 4) (hu + 5) 781 ∧ sh se = (0, 7) ∧ R se 0 = some (se + 1) ∧ R se 1 = some (se + 3) ∧ R se 2 = some (se + 5) ∧ xRow sh R (se + 1) (se + 2) 6 ∧ xRow sh R (se + 3) (se + 4) 6 ∧ xRow sh R (se + 5) (se + 6) 6 ∧ sh ac = (0, 0) ∧ R ac 0 = some (ac + 1) ∧ xRow sh R (ac + 1) (ac + 2) 20 ∧ sh 82 = (5, 6) ∧ (∀ i, i < 6 → R 82 i = some (125 + 2 * i)) ∧ (∀ i, i < 6 → sh (125 + 2 * i) = (0, 8) ∧ R (125 + 2 * i) 0 = some (126 + 2 * i) ∧ sh (126 + 2 * i) = (3, 60)) ∧ xModel sh R M
section GEOS
variable {sh : Nat → Nat × Nat} {R : xR} {lr nw im tr rd hu se ac M : Nat}
theorem GEO.g_e_x (h : GEO sh R lr nw im tr rd hu se ac M) : lr = 0 := h.1
theorem GEO.g_e_nw (h : GEO sh R lr nw im tr rd hu se ac M) : nw = 1 := h.2.1
theorem GEO.g_e_im (h : GEO sh R lr nw im tr rd hu se ac M) : im = 19 := h.2.2.1
theorem GEO.g_e_tr (h : GEO sh R lr nw im tr rd hu se ac M) : tr = 37 := h.2.2.2.1
theorem GEO.g_e_rd (h : GEO sh R lr nw im tr rd hu se ac M) : rd = 55 := h.2.2.2.2.1
theorem GEO.g_e_hu (h : GEO sh R lr nw im tr rd hu se ac M) : hu = 66 := h.2.2.2.2.2.1
theorem GEO.g_e_se (h : GEO sh R lr nw im tr rd hu se ac M) : se = 72 := h.2.2.2.2.2.2.1
theorem GEO.g_e_ac (h : GEO sh R lr nw im tr rd hu se ac M) : ac = 79 := h.2.2.2.2.2.2.2.1
theorem GEO.g_e_M (h : GEO sh R lr nw im tr rd hu se ac M) : M = 137 := h.2.2.2.2.2.2.2.2.1
theorem GEO.g_x (h : GEO sh R lr nw im tr rd hu se ac M) : sh lr = (0, 9) := h.2.2.2.2.2.2.2.2.2.1
theorem GEO.g_f0 (h : GEO sh R lr nw im tr rd hu se ac M) : R lr 0 = some nw := h.2.2.2.2.2.2.2.2.2.2.1
theorem GEO.g_f1 (h : GEO sh R lr nw im tr rd hu se ac M) : R lr 1 = some im := h.2.2.2.2.2.2.2.2.2.2.2.1
theorem GEO.g_f2 (h : GEO sh R lr nw im tr rd hu se ac M) : R lr 2 = some tr := h.2.2.2.2.2.2.2.2.2.2.2.2.1
theorem GEO.g_f4 (h : GEO sh R lr nw im tr rd hu se ac M) : R lr 4 = some rd := h.2.2.2.2.2.2.2.2.2.2.2.2.2.1
theorem GEO.g_f5 (h : GEO sh R lr nw im tr rd hu se ac M) : R lr 5 = some 65 := h.2.2.2.2.2.2.2.2.2.2.2.2.2.2.1
theorem GEO.g_f7 (h : GEO sh R lr nw im tr rd hu se ac M) : R lr 7 = some hu := h.2.2.2.2.2.2.2.2.2.2.2.2.2.2.2.1
theorem GEO.g_f8 (h : GEO sh R lr nw im tr rd hu se ac M) : R lr 8 = some se := h.2.2.2.2.2.2.2.2.2.2.2.2.2.2.2.2.1
theorem GEO.g_f9 (h : GEO sh R lr nw im tr rd hu se ac M) : R lr 9 = some ac := h.2.2.2.2.2.2.2.2.2.2.2.2.2.2.2.2.2.1
theorem GEO.g_f10 (h : GEO sh R lr nw im tr rd hu se ac M) : R lr 10 = some 82 := h.2.2.2.2.2.2.2.2.2.2.2.2.2.2.2.2.2.2.1
theorem GEO.g_nw (h : GEO sh R lr nw im tr rd hu se ac M) : xScene sh R nw := h.2.2.2.2.2.2.2.2.2.2.2.2.2.2.2.2.2.2.2.1
theorem GEO.g_im (h : GEO sh R lr nw im tr rd hu se ac M) : xScene sh R im := h.2.2.2.2.2.2.2.2.2.2.2.2.2.2.2.2.2.2.2.2.1
theorem GEO.g_tr (h : GEO sh R lr nw im tr rd hu se ac M) : xScene sh R tr := h.2.2.2.2.2.2.2.2.2.2.2.2.2.2.2.2.2.2.2.2.2.1
theorem GEO.g_rd (h : GEO sh R lr nw im tr rd hu se ac M) : sh rd = (0, 3) := h.2.2.2.2.2.2.2.2.2.2.2.2.2.2.2.2.2.2.2.2.2.2.1
theorem GEO.g_rd0 (h : GEO sh R lr nw im tr rd hu se ac M) : R rd 0 = some (rd + 1) := h.2.2.2.2.2.2.2.2.2.2.2.2.2.2.2.2.2.2.2.2.2.2.2.1
theorem GEO.g_rd1 (h : GEO sh R lr nw im tr rd hu se ac M) : R rd 1 = some (rd + 3) := h.2.2.2.2.2.2.2.2.2.2.2.2.2.2.2.2.2.2.2.2.2.2.2.2.1
theorem GEO.g_text (h : GEO sh R lr nw im tr rd hu se ac M) : xRow sh R (rd + 1) (rd + 2) 100 := h.2.2.2.2.2.2.2.2.2.2.2.2.2.2.2.2.2.2.2.2.2.2.2.2.2.1
theorem GEO.g_draft (h : GEO sh R lr nw im tr rd hu se ac M) : xRing sh R (rd + 3) := h.2.2.2.2.2.2.2.2.2.2.2.2.2.2.2.2.2.2.2.2.2.2.2.2.2.2.1
theorem GEO.g_ra (h : GEO sh R lr nw im tr rd hu se ac M) : sh 65 = (4, 6) := h.2.2.2.2.2.2.2.2.2.2.2.2.2.2.2.2.2.2.2.2.2.2.2.2.2.2.2.1
theorem GEO.g_ri (h : GEO sh R lr nw im tr rd hu se ac M) : ∀ i, i < 6 → R 65 i = some (83 + 7 * i) := h.2.2.2.2.2.2.2.2.2.2.2.2.2.2.2.2.2.2.2.2.2.2.2.2.2.2.2.2.1
theorem GEO.g_rg (h : GEO sh R lr nw im tr rd hu se ac M) : ∀ i, i < 6 → xRing sh R (83 + 7 * i) := h.2.2.2.2.2.2.2.2.2.2.2.2.2.2.2.2.2.2.2.2.2.2.2.2.2.2.2.2.2.1
theorem GEO.g_hu (h : GEO sh R lr nw im tr rd hu se ac M) : sh hu = (0, 1) := h.2.2.2.2.2.2.2.2.2.2.2.2.2.2.2.2.2.2.2.2.2.2.2.2.2.2.2.2.2.2.1
theorem GEO.g_hu0 (h : GEO sh R lr nw im tr rd hu se ac M) : R hu 0 = some (hu + 1) := h.2.2.2.2.2.2.2.2.2.2.2.2.2.2.2.2.2.2.2.2.2.2.2.2.2.2.2.2.2.2.2.1
theorem GEO.g_hul (h : GEO sh R lr nw im tr rd hu se ac M) : sh (hu + 1) = (3, 781) := h.2.2.2.2.2.2.2.2.2.2.2.2.2.2.2.2.2.2.2.2.2.2.2.2.2.2.2.2.2.2.2.2.1
theorem GEO.g_hu1 (h : GEO sh R lr nw im tr rd hu se ac M) : R hu 1 = some (hu + 2) := h.2.2.2.2.2.2.2.2.2.2.2.2.2.2.2.2.2.2.2.2.2.2.2.2.2.2.2.2.2.2.2.2.2.1
theorem GEO.g_hu2 (h : GEO sh R lr nw im tr rd hu se ac M) : R hu 2 = some (hu + 4) := h.2.2.2.2.2.2.2.2.2.2.2.2.2.2.2.2.2.2.2.2.2.2.2.2.2.2.2.2.2.2.2.2.2.2.1
theorem GEO.g_walks (h : GEO sh R lr nw im tr rd hu se ac M) : xRow sh R (hu + 2) (hu + 3) 781 := h.2.2.2.2.2.2.2.2.2.2.2.2.2.2.2.2.2.2.2.2.2.2.2.2.2.2.2.2.2.2.2.2.2.2.2.1
theorem GEO.g_lengths (h : GEO sh R lr nw im tr rd hu se ac M) : xRow sh R (hu + 4) (hu + 5) 781 := h.2.2.2.2.2.2.2.2.2.2.2.2.2.2.2.2.2.2.2.2.2.2.2.2.2.2.2.2.2.2.2.2.2.2.2.2.1
theorem GEO.g_se (h : GEO sh R lr nw im tr rd hu se ac M) : sh se = (0, 7) := h.2.2.2.2.2.2.2.2.2.2.2.2.2.2.2.2.2.2.2.2.2.2.2.2.2.2.2.2.2.2.2.2.2.2.2.2.2.1
theorem GEO.g_se0 (h : GEO sh R lr nw im tr rd hu se ac M) : R se 0 = some (se + 1) := h.2.2.2.2.2.2.2.2.2.2.2.2.2.2.2.2.2.2.2.2.2.2.2.2.2.2.2.2.2.2.2.2.2.2.2.2.2.2.1
theorem GEO.g_se1 (h : GEO sh R lr nw im tr rd hu se ac M) : R se 1 = some (se + 3) := h.2.2.2.2.2.2.2.2.2.2.2.2.2.2.2.2.2.2.2.2.2.2.2.2.2.2.2.2.2.2.2.2.2.2.2.2.2.2.2.1
theorem GEO.g_se2 (h : GEO sh R lr nw im tr rd hu se ac M) : R se 2 = some (se + 5) := h.2.2.2.2.2.2.2.2.2.2.2.2.2.2.2.2.2.2.2.2.2.2.2.2.2.2.2.2.2.2.2.2.2.2.2.2.2.2.2.2.1
theorem GEO.g_stools (h : GEO sh R lr nw im tr rd hu se ac M) : xRow sh R (se + 1) (se + 2) 6 := h.2.2.2.2.2.2.2.2.2.2.2.2.2.2.2.2.2.2.2.2.2.2.2.2.2.2.2.2.2.2.2.2.2.2.2.2.2.2.2.2.2.1
theorem GEO.g_chosen (h : GEO sh R lr nw im tr rd hu se ac M) : xRow sh R (se + 3) (se + 4) 6 := h.2.2.2.2.2.2.2.2.2.2.2.2.2.2.2.2.2.2.2.2.2.2.2.2.2.2.2.2.2.2.2.2.2.2.2.2.2.2.2.2.2.2.1
theorem GEO.g_best (h : GEO sh R lr nw im tr rd hu se ac M) : xRow sh R (se + 5) (se + 6) 6 := h.2.2.2.2.2.2.2.2.2.2.2.2.2.2.2.2.2.2.2.2.2.2.2.2.2.2.2.2.2.2.2.2.2.2.2.2.2.2.2.2.2.2.2.1
theorem GEO.g_ac (h : GEO sh R lr nw im tr rd hu se ac M) : sh ac = (0, 0) := h.2.2.2.2.2.2.2.2.2.2.2.2.2.2.2.2.2.2.2.2.2.2.2.2.2.2.2.2.2.2.2.2.2.2.2.2.2.2.2.2.2.2.2.2.1
theorem GEO.g_ac0 (h : GEO sh R lr nw im tr rd hu se ac M) : R ac 0 = some (ac + 1) := h.2.2.2.2.2.2.2.2.2.2.2.2.2.2.2.2.2.2.2.2.2.2.2.2.2.2.2.2.2.2.2.2.2.2.2.2.2.2.2.2.2.2.2.2.2.1
theorem GEO.g_trace (h : GEO sh R lr nw im tr rd hu se ac M) : xRow sh R (ac + 1) (ac + 2) 20 := h.2.2.2.2.2.2.2.2.2.2.2.2.2.2.2.2.2.2.2.2.2.2.2.2.2.2.2.2.2.2.2.2.2.2.2.2.2.2.2.2.2.2.2.2.2.2.1
theorem GEO.g_ta (h : GEO sh R lr nw im tr rd hu se ac M) : sh 82 = (5, 6) := h.2.2.2.2.2.2.2.2.2.2.2.2.2.2.2.2.2.2.2.2.2.2.2.2.2.2.2.2.2.2.2.2.2.2.2.2.2.2.2.2.2.2.2.2.2.2.2.1
theorem GEO.g_ti (h : GEO sh R lr nw im tr rd hu se ac M) : ∀ i, i < 6 → R 82 i = some (125 + 2 * i) := h.2.2.2.2.2.2.2.2.2.2.2.2.2.2.2.2.2.2.2.2.2.2.2.2.2.2.2.2.2.2.2.2.2.2.2.2.2.2.2.2.2.2.2.2.2.2.2.2.1
theorem GEO.g_ts (h : GEO sh R lr nw im tr rd hu se ac M) : ∀ i, i < 6 → sh (125 + 2 * i) = (0, 8) ∧ R (125 + 2 * i) 0 = some (126 + 2 * i) ∧ sh (126 + 2 * i) = (3, 60) := h.2.2.2.2.2.2.2.2.2.2.2.2.2.2.2.2.2.2.2.2.2.2.2.2.2.2.2.2.2.2.2.2.2.2.2.2.2.2.2.2.2.2.2.2.2.2.2.2.2.1
theorem GEO.g_M (h : GEO sh R lr nw im tr rd hu se ac M) : xModel sh R M := h.2.2.2.2.2.2.2.2.2.2.2.2.2.2.2.2.2.2.2.2.2.2.2.2.2.2.2.2.2.2.2.2.2.2.2.2.2.2.2.2.2.2.2.2.2.2.2.2.2.2
end GEOS

/-- a scene's values: V 0 kinds, 1 v, 2 cells, 3 stools, 4 hunger, 5 foes (bits), 6 walk, 7 film; V 8: 0 how many, 1 tamer, 2 tenth, 3 odds, 4 walk's length, 5 film's length, 6 which ring (0 none, j + 1) -/
abbrev xV : Type := Nat → Nat → Nat
def vsz (V : xV) (j : Nat) : Nat := if j < 6 then V 8 0 else if j = 6 then V 8 4 else V 8 5
def VOK (V : xV) (B : Nat) : Prop := V 8 0 ≤ 6 ∧ V 8 4 ≤ 12 ∧ V 8 5 ≤ 10 ∧ (∀ i, i < V 8 0 → V 0 i < 7 ∧ V 1 i < 10 ∧ V 2 i < 36 ∧ V 3 i < 36 ∧ V 4 i < 10) ∧ (∀ i, i < V 8 0 → V 5 i < 2 ^ V 8 0) ∧ (∀ i, i < V 8 4 → V 6 i < 36) ∧ (∀ i, i < V 8 5 → V 7 i < 36) ∧ V 8 1 < 36 ∧ V 8 2 ≤ B ∧ V 8 3 ≤ 10 ∧ V 8 6 ≤ 6 ∧ (∀ i j, i < V 8 0 → j < V 8 0 → V 3 i = V 3 j → i = j)
def FSC (I : xI) (b : Nat) (V : xV) : Prop := (∀ j, j < 8 → I (b + 1 + 2 * j) 1 = nI (vsz V j) ∧ ∀ i, i < vsz V j → I (b + 2 + 2 * j) i = nI (V j i)) ∧ I b 8 = nI (V 8 1) ∧ I b 9 = nI (V 8 2) ∧ I b 10 = nI (V 8 3) ∧ I b 12 = nI 0
theorem FSC.row {I : xI} {b : Nat} {V : xV} (h : FSC I b V) (j : Nat) (hj : j < 8) : bRow I (b + 1 + 2 * j) (vsz V j) (V j) := ⟨(h.1 j hj).1, fun i hi => by rw [show b + 1 + 2 * j + 1 = b + 2 + 2 * j by omega]; exact (h.1 j hj).2 i hi⟩
theorem FSC.keep {I I' : xI} {b : Nat} {V : xV} (h : FSC I b V) (hk : ∀ a, b ≤ a → a ≤ b + 16 → I' a = I a) : FSC I' b V := by
  obtain ⟨h1, h2, h3, h4, h5⟩ := h
  refine ⟨fun j hj => ?_, by rw [hk b (by omega) (by omega)]; exact h2, by rw [hk b (by omega) (by omega)]; exact h3, by rw [hk b (by omega) (by omega)]; exact h4, by rw [hk b (by omega) (by omega)]; exact h5⟩
  rw [hk (b + 1 + 2 * j) (by omega) (by omega), hk (b + 2 + 2 * j) (by omega) (by omega)]
  exact h1 j hj
/-- one scalar anew -/
theorem FSC.sc1 {I : xI} {b k s x : Nat} {V : xV} (h : FSC I b V) (hk : (k = 8 ∧ s = 1) ∨ (k = 9 ∧ s = 2) ∨ (k = 10 ∧ s = 3)) : FSC (up2 I b k (nI x)) b (up2 V 8 s x) := by
  obtain ⟨h1, h2, h3, h4, h5⟩ := h
  refine ⟨fun j hj => ?_, ?_, ?_, ?_, ?_⟩
  · have e1 : vsz (up2 V 8 s x) j = vsz V j := by
      unfold vsz
      rw [up2_k (by omega), up2_k (by omega), up2_k (by omega)]
    rw [e1, up2_row (show b + 1 + 2 * j ≠ b by omega), up2_row (show b + 2 + 2 * j ≠ b by omega), up2_row (show j ≠ 8 by omega)]
    exact h1 j hj
  · rcases hk with ⟨rfl, rfl⟩ | ⟨rfl, rfl⟩ | ⟨rfl, rfl⟩
    · rw [up2_s, up2_s]
    · rw [up2_k (by decide), up2_k (by decide)]; exact h2
    · rw [up2_k (by decide), up2_k (by decide)]; exact h2
  · rcases hk with ⟨rfl, rfl⟩ | ⟨rfl, rfl⟩ | ⟨rfl, rfl⟩
    · rw [up2_k (by decide), up2_k (by decide)]; exact h3
    · rw [up2_s, up2_s]
    · rw [up2_k (by decide), up2_k (by decide)]; exact h3
  · rcases hk with ⟨rfl, rfl⟩ | ⟨rfl, rfl⟩ | ⟨rfl, rfl⟩
    · rw [up2_k (by decide), up2_k (by decide)]; exact h4
    · rw [up2_k (by decide), up2_k (by decide)]; exact h4
    · rw [up2_s, up2_s]
  · rw [up2_k (by omega)]
    exact h5
/-- the reference's scene -/
def MDV (I : xI) (M : Nat) (V : xV) : Prop := I M 0 = nI (V 8 0) ∧ I M 1 = nI (V 8 1) ∧ I M 2 = nI (V 8 2) ∧ I M 3 = nI (V 8 3) ∧ I M 38 = nI (V 8 4) ∧ I M 46 = nI (V 8 5) ∧ I M 11 = nI (V 8 6) - 1 ∧ (∀ j, j < 6 → ∀ i, i < V 8 0 → I (M + 1 + j) i = nI (V j i)) ∧ (∀ i, i < V 8 4 → I (M + 19) i = nI (V 6 i)) ∧ ∀ i, i < V 8 5 → I (M + 26) i = nI (V 7 i)
theorem MDV.keep {I I' : xI} {M : Nat} {V : xV} (h : MDV I M V) (hk : ∀ k, (k < 4 ∨ k = 38 ∨ k = 46 ∨ k = 11) → I' M k = I M k) (ha : ∀ j, j < 6 ∨ j = 18 ∨ j = 25 → I' (M + 1 + j) = I (M + 1 + j)) : MDV I' M V := by
  obtain ⟨h1, h2, h3, h4, h5, h6, h7, h8, h9, h10⟩ := h
  refine ⟨by rw [hk 0 (by omega)]; exact h1, by rw [hk 1 (by omega)]; exact h2, by rw [hk 2 (by omega)]; exact h3, by rw [hk 3 (by omega)]; exact h4, by rw [hk 38 (by omega)]; exact h5, by rw [hk 46 (by omega)]; exact h6, by rw [hk 11 (by omega)]; exact h7, fun j hj i hi => by rw [ha j (by omega)]; exact h8 j hj i hi, fun i hi => ?_, fun i hi => ?_⟩
  · have := ha 18 (by omega)
    rw [show M + 1 + 18 = M + 19 by omega] at this
    rw [this]
    exact h9 i hi
  · have := ha 25 (by omega)
    rw [show M + 1 + 25 = M + 26 by omega] at this
    rw [this]
    exact h10 i hi
theorem MDV.sc1 {I : xI} {M s x : Nat} {V : xV} (h : MDV I M V) (hs : s = 1 ∨ s = 2 ∨ s = 3) : MDV (up2 I M s (nI x)) M (up2 V 8 s x) := by
  obtain ⟨h1, h2, h3, h4, h5, h6, h7, h8, h9, h10⟩ := h
  have kv : ∀ k, k ≠ s → up2 V 8 s x 8 k = V 8 k := fun k hk => up2_k hk
  have ki : ∀ k, k ≠ s → up2 I M s (nI x) M k = I M k := fun k hk => up2_k hk
  have kr : ∀ j, j ≠ 8 → up2 V 8 s x j = V j := fun j hj => up2_row hj
  have ka : ∀ j, 0 < j → up2 I M s (nI x) (M + j) = I (M + j) := fun j hj => up2_row (by omega)
  have ks : ∀ k, k < 4 → 0 < k → I M k = nI (V 8 k) → up2 I M s (nI x) M k = nI (up2 V 8 s x 8 k) := fun k _ _ hh => by
    by_cases q : k = s
    · subst q; rw [up2_s, up2_s]
    · rw [kv k q, ki k q]; exact hh
  refine ⟨by rw [kv 0 (by omega), ki 0 (by omega)]; exact h1, ks 1 (by omega) (by omega) h2, ks 2 (by omega) (by omega) h3, ks 3 (by omega) (by omega) h4, by rw [kv 4 (by omega), ki 38 (by omega)]; exact h5, by rw [kv 5 (by omega), ki 46 (by omega)]; exact h6, by rw [kv 6 (by omega), ki 11 (by omega)]; exact h7, fun j hj i hi => ?_, fun i hi => ?_, fun i hi => ?_⟩
  · rw [kv 0 (by omega)] at hi
    rw [show M + 1 + j = M + (1 + j) by omega, ka (1 + j) (by omega), kr j (by omega), show M + (1 + j) = M + 1 + j by omega]
    exact h8 j hj i hi
  · rw [kv 4 (by omega)] at hi
    rw [ka 19 (by omega), kr 6 (by omega)]
    exact h9 i hi
  · rw [kv 5 (by omega)] at hi
    rw [ka 26 (by omega), kr 7 (by omega)]
    exact h10 i hi
/-- a number as an index below n -/
def idx (n : Nat) (x : Int32) : Option Nat := if x < 0 ∨ nI n ≤ x then none else some x.toNatClampNeg
theorem idx_s {n k : Nat} (hk : k < n) (hn : n < 2 ^ 31) : idx n (nI k) = some k := by
  unfold idx
  rw [if_neg (fun h => h.elim (nI_pos (by omega)) (nI_ge hk hn)), nI_clamp (by omega)]
theorem idx_n {n : Nat} {x : Int32} (h : x < 0 ∨ nI n ≤ x) : idx n x = none := if_pos h
theorem le_of_lt1 {n : Nat} {x : Int32} (hn : n + 1 < 2 ^ 31) (h : nI n < x) : nI (n + 1) ≤ x := by
  have h1 := Int32.lt_iff_toInt_lt.mp h
  rw [nI_toInt (by omega)] at h1
  exact Int32.le_iff_toInt_le.mpr (by rw [nI_toInt hn]; omega)
theorem cell_n {x : Int32} (h : x < 0 ∨ (35 : Int32) < x) : idx 36 x = none := idx_n (h.imp id (fun h => le_of_lt1 (n := 35) (by decide) h))
def spTamer (V : xV) (x : Int32) : Int32 × xV := match idx 36 x with
  | none => (-1, V)
  | some c => if held (V 8 0) (V 2) c = true then (-3, V) else (nI (V 8 1), up2 V 8 1 c)
def spThunder (V : xV) (x : Int32) : Int32 × xV := match idx 11 x with
  | none => (-2, V)
  | some c => (nI (V 8 3), up2 V 8 3 c)
