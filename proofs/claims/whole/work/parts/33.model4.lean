/-! ===== the reference: what one does ===== -/
def MS (sh : Nat → Nat × Nat) (R : xR) (I : xI) (M nb : Nat) (ki ve ce sto hu : Nat → Nat) (ta te lo : Nat) (o : Option xAR) : Prop := xModel sh R M ∧ nb ≤ 6 ∧ I M 0 = nI nb ∧ (∀ i, i < nb → I (M + 17) i = nI (ki i)) ∧ (∀ i, i < nb → I (M + 2) i = nI (ve i)) ∧ (∀ i, i < nb → I (M + 16) i = nI (ce i)) ∧ (∀ i, i < nb → I (M + 4) i = nI (sto i)) ∧ (∀ i, i < nb → I (M + 5) i = nI (hu i)) ∧
  (∀ i, i < nb → ki i < 7 ∧ ve i < 10 ∧ ce i < 36 ∧ sto i < 36 ∧ hu i < 10) ∧ I M 27 = nI ta ∧ ta < 36 ∧ I M 28 = nI te ∧ te < 1000000 ∧ I M 29 = nI lo ∧ lo < 100 ∧ mdLines I M o
theorem mdLines.keep {I I' : xI} {M : Nat} {o : Option xAR} (h : mdLines I M o) (h0 : I' M 11 = I M 11) (hk : ∀ j, 8 ≤ j → j ≤ 13 → I' (M + j) = I (M + j)) : mdLines I' M o := by
  cases o with
  | none => exact h0.trans h
  | some ar =>
    obtain ⟨t, h1, h2⟩ := h
    refine ⟨t, h0.trans h1, ?_⟩
    unfold mdRing at h2 ⊢
    rw [hk 8 (by omega) (by omega), hk 9 (by omega) (by omega), hk 10 (by omega) (by omega), hk 11 (by omega) (by omega), hk 12 (by omega) (by omega), hk 13 (by omega) (by omega)]
    exact h2
/-- the reference's own notes and pile may change -/
def mdFr (M : Nat) (I I' : xI) : Prop := (∀ a, a ≠ M → a ≠ M + 18 → I' a = I a) ∧ ∀ k, k < 33 ∨ 37 < k → I' M k = I M k
theorem mdFr.rf {M : Nat} {I : xI} : mdFr M I I := ⟨fun _ _ _ => rfl, fun _ _ => rfl⟩
theorem mdFr.tr {M : Nat} {I I' I'' : xI} (h : mdFr M I I') (h' : mdFr M I' I'') : mdFr M I I'' := ⟨fun a p1 p2 => (h'.1 a p1 p2).trans (h.1 a p1 p2), fun k p => (h'.2 k p).trans (h.2 k p)⟩
theorem mdFr.fld {M k : Nat} {x : Int32} {I : xI} (hk : 33 ≤ k ∧ k ≤ 37) : mdFr M I (up2 I M k x) := ⟨fun a p1 p2 => up2_row p1, fun j p => up2_k (by omega)⟩
theorem mdFr.pile {M : Nat} {I I' : xI} (h : ∀ a, a ≠ M + 18 → I' a = I a) : mdFr M I I' := ⟨fun a _ p => h a p, fun k _ => by rw [h M (by omega)]⟩
theorem MS.keep {sh : Nat → Nat × Nat} {R : xR} {I I' : xI} {M nb ta te lo : Nat} {ki ve ce sto hu : Nat → Nat} {o : Option xAR} (h : MS sh R I M nb ki ve ce sto hu ta te lo o) (f : mdFr M I I') : MS sh R I' M nb ki ve ce sto hu ta te lo o := by
  obtain ⟨a1, a2, a3, a4, a5, a6, a7, a8, a9, a10, a11, a12, a13, a14, a15, a16⟩ := h
  obtain ⟨f1, f2⟩ := f
  have k : ∀ j, 0 < j → j ≠ 18 → I' (M + j) = I (M + j) := fun j p1 p2 => f1 _ (by omega) (by omega)
  refine ⟨a1, a2, by rw [f2 0 (by omega)]; exact a3, fun i hi => by rw [k 17 (by omega) (by omega)]; exact a4 i hi, fun i hi => by rw [k 2 (by omega) (by omega)]; exact a5 i hi, fun i hi => by rw [k 16 (by omega) (by omega)]; exact a6 i hi, fun i hi => by rw [k 4 (by omega) (by omega)]; exact a7 i hi, fun i hi => by rw [k 5 (by omega) (by omega)]; exact a8 i hi, a9, by rw [f2 27 (by omega)]; exact a10, a11, by rw [f2 28 (by omega)]; exact a12, a13, by rw [f2 29 (by omega)]; exact a14, a15, a16.keep (f2 11 (by omega)) (fun j p1 p2 => k j (by omega) (by omega))⟩
theorem cm_mn {y c : Nat} (hy : 0 < y) : mn c (y - 1) = cm y c := by unfold cm; rw [if_neg (by omega)]
theorem cm_0 {c : Nat} : mn c 0 = cm 0 c := by unfold cm mn; split <;> simp; omega
theorem pick_congr {ok ok' : Nat → Bool} {bet bet' : Nat → Nat → Bool} {own : Nat} : ∀ s, (∀ z p, (∃ i, nxt own i = some z) → (ok z && bet z p) = (ok' z && bet' z p)) → pick ok bet own s = pick ok' bet' own s
  | 0, _ => rfl
  | s + 1, h => by
    have ih := pick_congr s h
    cases hn : nxt own s with
    | none => rw [pick_none hn, pick_none hn, ih]
    | some z =>
      have e := h z (pick ok' bet' own s) ⟨s, hn⟩
      cases h2 : (ok' z && bet' z (pick ok' bet' own s)) with
      | true =>
        rw [h2] at e
        have e1 : ok z = true ∧ bet z (pick ok' bet' own s) = true := by simpa using e
        have e2 : ok' z = true ∧ bet' z (pick ok' bet' own s) = true := by simpa using h2
        rw [pick_yes hn e2.1 e2.2, pick_yes hn e1.1 (by rw [ih]; exact e1.2)]
      | false =>
        rw [h2] at e
        have e1 : ok z = false ∨ bet z (pick ok' bet' own s) = false := by
          cases ho : ok z with
          | false => exact Or.inl rfl
          | true => rw [ho] at e; exact Or.inr (by simpa using e)
        have e2 : ok' z = false ∨ bet' z (pick ok' bet' own s) = false := by
          cases ho : ok' z with
          | false => exact Or.inl rfl
          | true => rw [ho] at h2; exact Or.inr (by simpa using h2)
        rw [pick_no hn e2, pick_no hn (by rw [ih]; exact e1), ih]
theorem ap_self {a : Nat} : ap a a = 0 := by unfold ap; simp
theorem rnd_self {a : Nat} : rnd a a = 0 := by unfold rnd; rw [ap_self, ap_self]
theorem ap_0 {a b : Nat} (h : ap a b = 0) : a = b := by unfold ap at h; split at h <;> omega
theorem rnd_0 {a b : Nat} (h : rnd a b = 0) : a = b := by
  unfold rnd at h
  have h1 := ap_0 (a := a / 6) (b := b / 6) (by omega)
  have h2 := ap_0 (a := a % 6) (b := b % 6) (by omega)
  omega
/-- whether the reference, that also leaves THE TAMER's cell out, yields as the class does -/
def yOk2 (nb : Nat) (ce : Nat → Nat) (ta : Nat) : Nat → Bool := fun z => !held nb ce z && !(z == ta)
theorem yPk2 {nb : Nat} {ce : Nat → Nat} {ta own s : Nat} : pick (yOk2 nb ce ta) (yBet ta) own s = yPk nb ce ta own s := by
  refine pick_congr s (fun z p _ => ?_)
  unfold yOk2 yOk yBet
  by_cases hz : z = ta
  · subst hz
    rw [rnd_self]
    simp
  · have e : (z == ta) = false := beq_eq_false_iff_ne.mpr hz
    rw [e]
    simp
theorem rnd_nxt : ∀ own, own < 36 → ∀ s, s < 4 → ∀ z, z < 36 → nxt own s = some z → rnd own z = 1 := by decide +kernel
theorem nxt_4 {own s z : Nat} (h : nxt own s = some z) : ∃ s', s' < 4 ∧ nxt own s' = some z := by
  by_cases hs : s < 4
  · exact ⟨s, hs, h⟩
  · refine ⟨3, by omega, ?_⟩
    unfold nxt at h ⊢
    rw [if_neg (by omega), if_neg (by omega), if_neg (by omega)] at h
    simpa using h
/-- FEIGNED: leaving THE TAMER's cell out is staying where one would come into it -/
theorem cPk_feign {nb : Nat} {ce : Nat → Nat} {ta own : Nat} (ho : own < 36) (ht : ta < 36) : (cPk nb ce true ta ta own 4 = ta ∧ ¬ cPk nb ce true ta ta own 4 = own → cPk nb ce false ta ta own 4 = own) ∧ (¬ (cPk nb ce true ta ta own 4 = ta ∧ ¬ cPk nb ce true ta ta own 4 = own) → cPk nb ce false ta ta own 4 = cPk nb ce true ta ta own 4) := by
  by_cases hadj : (∃ s, nxt own s = some ta) ∧ held nb ce ta = false
  · obtain ⟨⟨s, hs⟩, hf⟩ := hadj
    obtain ⟨s', hs4, hs'⟩ := nxt_4 hs
    have h1 : rnd own ta = 1 := rnd_nxt own ho s' hs4 ta ht hs'
    have hne : ¬ ta = own := fun q => by rw [q, rnd_self] at h1; cases h1
    have e1 : cPk nb ce false ta ta own 4 = own := by
      have : ∀ k, cPk nb ce false ta ta own k = own := by
        intro k
        induction k with
        | zero => rfl
        | succ k ih =>
          unfold cPk at ih ⊢
          cases hn : nxt own k with
          | none => rw [pick_none hn, ih]
          | some z =>
            rw [pick_no hn, ih]
            by_cases hz : z = ta
            · left
              unfold cOk
              simp [hz]
            · right
              rw [ih]
              unfold cBet
              refine decide_eq_false (fun q => hz (rnd_0 ?_))
              omega
      exact this 4
    have e2 : ∀ k, (cPk nb ce true ta ta own k = ta) ∨ (cPk nb ce true ta ta own k = own ∧ ∀ j, j < k → ¬ nxt own j = some ta) := by
      intro k
      induction k with
      | zero => exact Or.inr ⟨rfl, fun j hj => absurd hj (by omega)⟩
      | succ k ih =>
        unfold cPk at ih ⊢
        rcases ih with ih | ⟨ih, hno⟩
        · left
          cases hn : nxt own k with
          | none => rw [pick_none hn, ih]
          | some z =>
            rw [pick_no hn, ih]
            right
            rw [ih]
            unfold cBet
            rw [rnd_self]
            rfl
        · cases hn : nxt own k with
          | none =>
            right
            refine ⟨by rw [pick_none hn, ih], fun j hj => ?_⟩
            rcases Nat.lt_succ_iff_lt_or_eq.mp hj with q | q
            · exact hno j q
            · rw [q, hn]; simp
          | some z =>
            by_cases hz : z = ta
            · left
              subst hz
              refine pick_yes hn (by unfold cOk; rw [hf]; rfl) ?_
              rw [ih]
              unfold cBet
              rw [rnd_self, h1]
              rfl
            · right
              refine ⟨?_, fun j hj => ?_⟩
              · rw [pick_no hn, ih]
                right
                rw [ih]
                unfold cBet
                exact decide_eq_false (fun q => hz (rnd_0 (by omega)))
              · rcases Nat.lt_succ_iff_lt_or_eq.mp hj with q | q
                · exact hno j q
                · rw [q, hn]
                  simpa using hz
    have e3 : cPk nb ce true ta ta own 4 = ta := by
      rcases e2 4 with h | ⟨-, h⟩
      · exact h
      · exact absurd hs' (h s' hs4)
    refine ⟨fun _ => e1, fun q => ?_⟩
    exact absurd ⟨e3, fun z => hne (e3.symm.trans z)⟩ q
  · have e : cPk nb ce false ta ta own 4 = cPk nb ce true ta ta own 4 := by
      refine pick_congr 4 (fun z p hz => ?_)
      unfold cOk
      by_cases hzt : z = ta
      · subst hzt
        have hh : held nb ce z = true := by
          cases hx : held nb ce z with
          | true => rfl
          | false => exact absurd ⟨hz, hx⟩ hadj
        rw [hh]
        rfl
      · have e : (z == ta) = false := beq_eq_false_iff_ne.mpr hzt
        rw [e]
        simp
    have hnt : cPk nb ce true ta ta own 4 = ta → cPk nb ce true ta ta own 4 = own := by
      have : ∀ k, cPk nb ce true ta ta own k = ta → cPk nb ce true ta ta own k = own := by
        intro k
        induction k with
        | zero => exact fun _ => rfl
        | succ k ih =>
          unfold cPk at ih ⊢
          cases hn : nxt own k with
          | none => rw [pick_none hn]; exact ih
          | some z =>
            cases h2 : (cOk nb ce true ta z && cBet ta z (pick (cOk nb ce true ta) (cBet ta) own k)) with
            | true =>
              have h3 : cOk nb ce true ta z = true ∧ cBet ta z (pick (cOk nb ce true ta) (cBet ta) own k) = true := by simpa using h2
              rw [pick_yes hn h3.1 h3.2]
              intro hz
              subst hz
              refine absurd ⟨⟨k, hn⟩, ?_⟩ hadj
              have := h3.1
              unfold cOk at this
              simpa using this
            | false =>
              rw [pick_no hn (by
                cases h3 : cOk nb ce true ta z with
                | false => exact Or.inl rfl
                | true => rw [h3] at h2; exact Or.inr (by simpa using h2))]
              exact ih
      exact this 4
    exact ⟨fun q => e.trans (hnt q.1), fun _ => e⟩
theorem yBet_f {ta z p : Nat} (h : rnd z ta ≤ rnd p ta) : yBet ta z p = false := decide_eq_false (Nat.not_lt.mpr h)
theorem yBet_t {ta z p : Nat} (h : rnd p ta < rnd z ta) : yBet ta z p = true := decide_eq_true h
theorem cBet_f {ta z p : Nat} (h : rnd p ta ≤ rnd z ta) : cBet ta z p = false := decide_eq_false (Nat.not_lt.mpr h)
theorem cBet_t {ta z p : Nat} (h : rnd z ta < rnd p ta) : cBet ta z p = true := decide_eq_true h
theorem sub_ge {a b : Nat} {v : Int32} (e : v = nI a - nI b) (ha : a < 2 ^ 30) (hb : b < 2 ^ 30) (h : 0 ≤ v) : b ≤ a := by
  have h1 := Int32.le_iff_toInt_le.mp h
  rw [e, pk_sub_toInt ha hb] at h1
  have : (0 : Int32).toInt = 0 := rfl
  omega
theorem sub_lt {a b : Nat} {v : Int32} (e : v = nI a - nI b) (ha : a < 2 ^ 30) (hb : b < 2 ^ 30) (h : ¬ 0 ≤ v) : a < b := by
  have h1 := Int32.lt_iff_toInt_lt.mp (i32_lt h)
  rw [e, pk_sub_toInt ha hb] at h1
  have : (0 : Int32).toInt = 0 := rfl
  omega
theorem sub_le {a b : Nat} {v : Int32} (e : v = nI a - nI b) (ha : a < 2 ^ 30) (hb : b < 2 ^ 30) (h : v ≤ 0) : a ≤ b := by
  have h1 := Int32.le_iff_toInt_le.mp h
  rw [e, pk_sub_toInt ha hb] at h1
  have : (0 : Int32).toInt = 0 := rfl
  omega
theorem sub_gt {a b : Nat} {v : Int32} (e : v = nI a - nI b) (ha : a < 2 ^ 30) (hb : b < 2 ^ 30) (h : ¬ v ≤ 0) : b < a := by
  have h1 := Int32.lt_iff_toInt_lt.mp (i32_lt h)
  rw [e, pk_sub_toInt ha hb] at h1
  have : (0 : Int32).toInt = 0 := rfl
  omega
set_option maxHeartbeats 4000000 in
set_option maxRecDepth 100000 in
theorem lm_nextBy_y {T : xT} {n : Nat} {sh : Nat → Nat × Nat} {I : xI} {R : xR} {L : xL} {P : xPost} {M nb ta te lo : Nat} {ki ve ce sto hu : Nat → Nat} {o : Option xAR} {bi spot : Nat} (h : MS sh R I M nb ki ve ce sto hu ta te lo o) (hb : bi < nb) (hsp : spot < 36) (K : P (n, sh, 0, 0) I R L (some (.int (nI (pick (yOk2 nb ce ta) (yBet spot) (ce bi) 4))))) : ∀ (w i : Nat), i + w = 4 → X T zX10_nextBy 2 0 0 P 15 [(0, .ref M), (1, .int (nI bi)), (2, .int (nI spot)), (3, .int 0), (4, .int 1), (5, .int (nI (ce bi))), (6, .int (nI (pick (yOk2 nb ce ta) (yBet spot) (ce bi) i))), (7, .int (nI i))] [] (n, sh, 0, 0) (I) R L := by
  obtain ⟨hM, hn6, hnb, hki, hve, hc, hsto, hhu, hbd, hta, ht, hte, hte2, hlo, hlo2, hln⟩ := id h
  have hce : ∀ i, i < nb → ce i < 36 := fun i hi => (hbd i hi).2.2.1
  obtain ⟨hk7, hv10, hc36, hs36, hu10⟩ := hbd bi hb
  intro w
  induction w with
  | zero =>
    intro i hw
    have hz : i = 4 := by omega
    have hpl : pick (yOk2 nb ce ta) (yBet spot) (ce bi) i < 36 := pick_lt hc36 i
    refine x_iload (pc := 15) dX10_nextBy_15 rfl ?_
    refine x_iconst (pc := 17) (v := 4) dX10_nextBy_17 (by decide) ?_
    refine x_icmpn_ge_t (pc := 18) (tgt := 106) (a := i) (b := 4) dX10_nextBy_18 (by decide) (by omega) (by decide) (by omega) ?_
    refine x_iload (pc := 106) dX10_nextBy_106 rfl ?_
    refine x_ireturn (pc := 108) dX10_nextBy_108 ⟨_, rfl, rfl⟩ ⟨Nat.le_refl _, Nat.le_refl _⟩ ?_
    rw [hz]
    exact K
  | succ w ih =>
    intro i hw
    have hi : i < 4 := by omega
    have hpl : pick (yOk2 nb ce ta) (yBet spot) (ce bi) i < 36 := pick_lt hc36 i
    refine x_iload (pc := 15) dX10_nextBy_15 rfl ?_
    refine x_iconst (pc := 17) (v := 4) dX10_nextBy_17 (by decide) ?_
    refine x_icmpn_ge_f (pc := 18) (tgt := 106) (a := i) (b := 4) dX10_nextBy_18 (by decide) (by omega) (by decide) (by omega) ?_
    refine x_aload_n (pc := 21) dX10_nextBy_21 rfl rfl ?_
    refine x_iload (pc := 22) dX10_nextBy_22 rfl ?_
    refine x_iload (pc := 24) dX10_nextBy_24 rfl ?_
    refine x_callV (pc := 26) (As := [.int _, .int _]) dX10_nextBy_26 km_X10_beside kv_X10_beside kl_RX10_304 hM.s rfl rfl (by decide) ⟨Nat.le_refl _, Nat.le_refl _⟩ rfl (Nat.le_of_ble_eq_true rfl) (Nat.le_of_ble_eq_true rfl) (m_beside hc36 hi (fun z hnx => ⟨rfl, rfl, ?_⟩) (fun hno => ⟨rfl, rfl, ?_⟩))
    · skip
      have hz36 := nxt_lt hc36 hnx
      refine x_istore (pc := 29) (lv' := [(0, .ref M), (1, .int (nI bi)), (2, .int (nI spot)), (3, .int 0), (4, .int 1), (5, .int (nI (ce bi))), (6, .int (nI (pick (yOk2 nb ce ta) (yBet spot) (ce bi) i))), (7, .int (nI i)), (8, .int (nI z))]) dX10_nextBy_29 (by decide) rfl ?_
      refine x_iload (pc := 31) dX10_nextBy_31 rfl ?_
      refine x_ifn_lt (pc := 33) (a := z) dX10_nextBy_33 ⟨100, by decide⟩ (by omega) ?_
      refine x_aload_n (pc := 36) dX10_nextBy_36 rfl rfl ?_
      refine x_iload (pc := 37) dX10_nextBy_37 rfl ?_
      refine x_callV (pc := 39) (As := [.int _]) dX10_nextBy_39 km_X10_isTaken kv_X10_isTaken kl_RX10_307 hM.s rfl rfl (by decide) ⟨Nat.le_refl _, Nat.le_refl _⟩ rfl (Nat.le_of_ble_eq_true rfl) (Nat.le_of_ble_eq_true rfl) (m_isTaken (x := z) hM hnb hn6 hc hce hz36 (fun hh => ⟨rfl, rfl, ?_⟩) (fun hf => ⟨rfl, rfl, ?_⟩))
      · skip
        refine x_if_ne_t (pc := 42) (tgt := 100) dX10_nextBy_42 (by decide) (by decide) ?_
        refine x_iinc (pc := 100) (v := nI (i + 1)) (lv' := [(0, .ref M), (1, .int (nI bi)), (2, .int (nI spot)), (3, .int 0), (4, .int 1), (5, .int (nI (ce bi))), (6, .int (nI (pick (yOk2 nb ce ta) (yBet spot) (ce bi) i))), (7, .int (nI (i + 1))), (8, .int (nI z))]) dX10_nextBy_100 rfl (nI_1 _) (by decide) rfl ?_
        refine x_goto (pc := 103) (tgt := 15) dX10_nextBy_103 (by decide) ?_
        have h9 := ih (i + 1) (by omega)
        rw [show pick (yOk2 nb ce ta) (yBet spot) (ce bi) (i + 1) = pick (yOk2 nb ce ta) (yBet spot) (ce bi) i from pick_no hnx (Or.inl (by unfold yOk2; rw [hh]; rfl))] at h9
        exact X.keep [0, 1, 2, 3, 4, 5, 6, 7] rfl h9
      · skip
        refine x_if_ne_f (pc := 42) (tgt := 100) dX10_nextBy_42 (by decide) (by decide) ?_
        refine x_iload (pc := 45) dX10_nextBy_45 rfl ?_
        refine x_if_eq_f (pc := 47) (tgt := 62) dX10_nextBy_47 (by decide) (by decide) ?_
        refine x_iload (pc := 50) dX10_nextBy_50 rfl ?_
        refine x_aload_n (pc := 52) dX10_nextBy_52 rfl rfl ?_
        refine x_get (pc := 53) dX10_nextBy_53 kf_RX10_92 hM.s rfl ?_
        rw [hta]
        refine x_icmpn_ne (pc := 56) (tgt := 62) (a := z) (b := ta) dX10_nextBy_56 (by decide) (by omega) (by omega) (fun c56 => ?_) (fun c56 => ?_)
        · skip
          refine x_aload_n (pc := 62) dX10_nextBy_62 rfl rfl ?_
          refine x_iload (pc := 63) dX10_nextBy_63 rfl ?_
          refine x_iload_n (pc := 65) dX10_nextBy_65 rfl rfl ?_
          refine x_callV (pc := 66) (As := [.int _, .int _]) dX10_nextBy_66 km_X10_round kv_X10_round kl_RX10_328 hM.s rfl rfl (by decide) ⟨Nat.le_refl _, Nat.le_refl _⟩ rfl (Nat.le_of_ble_eq_true rfl) (Nat.le_of_ble_eq_true rfl) (m_round hM.s hz36 hsp (⟨rfl, rfl, ?_⟩))
          have := rnd_lt hz36 hsp
          refine x_aload_n (pc := 69) dX10_nextBy_69 rfl rfl ?_
          refine x_iload (pc := 70) dX10_nextBy_70 rfl ?_
          refine x_iload_n (pc := 72) dX10_nextBy_72 rfl rfl ?_
          refine x_callV (pc := 73) (As := [.int _, .int _]) dX10_nextBy_73 km_X10_round kv_X10_round kl_RX10_328 hM.s rfl rfl (by decide) ⟨Nat.le_refl _, Nat.le_refl _⟩ rfl (Nat.le_of_ble_eq_true rfl) (Nat.le_of_ble_eq_true rfl) (m_round hM.s hpl hsp (⟨rfl, rfl, ?_⟩))
          have := rnd_lt hpl hsp
          refine x_isub (pc := 76) dX10_nextBy_76 ?_
          refine x_topi (fun v77 ev77 => ?_)
          refine x_istore (pc := 77) (lv' := [(0, .ref M), (1, .int (nI bi)), (2, .int (nI spot)), (3, .int 0), (4, .int 1), (5, .int (nI (ce bi))), (6, .int (nI (pick (yOk2 nb ce ta) (yBet spot) (ce bi) i))), (7, .int (nI i)), (8, .int (nI z)), (9, .int v77)]) dX10_nextBy_77 (by decide) rfl ?_
          refine x_iload_n (pc := 79) dX10_nextBy_79 rfl rfl ?_
          refine x_if_eq_t (pc := 80) (tgt := 91) dX10_nextBy_80 (by decide) (by decide) ?_
          refine x_iload (pc := 91) dX10_nextBy_91 rfl ?_
          refine x_if_le (pc := 93) (tgt := 100) dX10_nextBy_93 (by decide) (fun c93 => ?_) (fun c93 => ?_)
          · skip
            refine x_iinc (pc := 100) (v := nI (i + 1)) (lv' := [(0, .ref M), (1, .int (nI bi)), (2, .int (nI spot)), (3, .int 0), (4, .int 1), (5, .int (nI (ce bi))), (6, .int (nI (pick (yOk2 nb ce ta) (yBet spot) (ce bi) i))), (7, .int (nI (i + 1))), (8, .int (nI z)), (9, .int v77)]) dX10_nextBy_100 rfl (nI_1 _) (by decide) rfl ?_
            refine x_goto (pc := 103) (tgt := 15) dX10_nextBy_103 (by decide) ?_
            have h9 := ih (i + 1) (by omega)
            rw [show pick (yOk2 nb ce ta) (yBet spot) (ce bi) (i + 1) = pick (yOk2 nb ce ta) (yBet spot) (ce bi) i from pick_no hnx (Or.inr (yBet_f (sub_le ev77 (by omega) (by omega) c93)))] at h9
            exact X.keep [0, 1, 2, 3, 4, 5, 6, 7] rfl h9
          · skip
            refine x_iload (pc := 96) dX10_nextBy_96 rfl ?_
            refine x_istore (pc := 98) (lv' := [(0, .ref M), (1, .int (nI bi)), (2, .int (nI spot)), (3, .int 0), (4, .int 1), (5, .int (nI (ce bi))), (6, .int (nI z)), (7, .int (nI i)), (8, .int (nI z)), (9, .int v77)]) dX10_nextBy_98 (by decide) rfl ?_
            refine x_iinc (pc := 100) (v := nI (i + 1)) (lv' := [(0, .ref M), (1, .int (nI bi)), (2, .int (nI spot)), (3, .int 0), (4, .int 1), (5, .int (nI (ce bi))), (6, .int (nI z)), (7, .int (nI (i + 1))), (8, .int (nI z)), (9, .int v77)]) dX10_nextBy_100 rfl (nI_1 _) (by decide) rfl ?_
            refine x_goto (pc := 103) (tgt := 15) dX10_nextBy_103 (by decide) ?_
            have h9 := ih (i + 1) (by omega)
            rw [show pick (yOk2 nb ce ta) (yBet spot) (ce bi) (i + 1) = z from pick_yes hnx (by unfold yOk2; rw [hf]; simp [c56]) (yBet_t (sub_gt ev77 (by omega) (by omega) c93))] at h9
            exact X.keep [0, 1, 2, 3, 4, 5, 6, 7] rfl h9
        · skip
          refine x_goto (pc := 59) (tgt := 100) dX10_nextBy_59 (by decide) ?_
          refine x_iinc (pc := 100) (v := nI (i + 1)) (lv' := [(0, .ref M), (1, .int (nI bi)), (2, .int (nI spot)), (3, .int 0), (4, .int 1), (5, .int (nI (ce bi))), (6, .int (nI (pick (yOk2 nb ce ta) (yBet spot) (ce bi) i))), (7, .int (nI (i + 1))), (8, .int (nI z))]) dX10_nextBy_100 rfl (nI_1 _) (by decide) rfl ?_
          refine x_goto (pc := 103) (tgt := 15) dX10_nextBy_103 (by decide) ?_
          have h9 := ih (i + 1) (by omega)
          rw [show pick (yOk2 nb ce ta) (yBet spot) (ce bi) (i + 1) = pick (yOk2 nb ce ta) (yBet spot) (ce bi) i from pick_no hnx (Or.inl (by unfold yOk2; simp [c56]))] at h9
          exact X.keep [0, 1, 2, 3, 4, 5, 6, 7] rfl h9
    · skip
      refine x_istore (pc := 29) (lv' := [(0, .ref M), (1, .int (nI bi)), (2, .int (nI spot)), (3, .int 0), (4, .int 1), (5, .int (nI (ce bi))), (6, .int (nI (pick (yOk2 nb ce ta) (yBet spot) (ce bi) i))), (7, .int (nI i)), (8, .int (-1))]) dX10_nextBy_29 (by decide) rfl ?_
      refine x_iload (pc := 31) dX10_nextBy_31 rfl ?_
      refine x_if_lt_t (pc := 33) (tgt := 100) dX10_nextBy_33 (by decide) (by decide) ?_
      refine x_iinc (pc := 100) (v := nI (i + 1)) (lv' := [(0, .ref M), (1, .int (nI bi)), (2, .int (nI spot)), (3, .int 0), (4, .int 1), (5, .int (nI (ce bi))), (6, .int (nI (pick (yOk2 nb ce ta) (yBet spot) (ce bi) i))), (7, .int (nI (i + 1))), (8, .int (-1))]) dX10_nextBy_100 rfl (nI_1 _) (by decide) rfl ?_
      refine x_goto (pc := 103) (tgt := 15) dX10_nextBy_103 (by decide) ?_
      have h9 := ih (i + 1) (by omega)
      rw [show pick (yOk2 nb ce ta) (yBet spot) (ce bi) (i + 1) = pick (yOk2 nb ce ta) (yBet spot) (ce bi) i from pick_none hno] at h9
      exact X.keep [0, 1, 2, 3, 4, 5, 6, 7] rfl h9

set_option maxHeartbeats 4000000 in
set_option maxRecDepth 100000 in
theorem m_nextBy_y {T : xT} {n : Nat} {sh : Nat → Nat × Nat} {I : xI} {R : xR} {L : xL} {P : xPost} {M nb ta te lo : Nat} {ki ve ce sto hu : Nat → Nat} {o : Option xAR} {bi spot : Nat} (h : MS sh R I M nb ki ve ce sto hu ta te lo o) (hb : bi < nb) (hsp : spot < 36) (K : P (n, sh, 0, 0) I R L (some (.int (nI (pick (yOk2 nb ce ta) (yBet spot) (ce bi) 4))))) : XM T zX10_nextBy 2 [.ref M, .int (nI bi), .int (nI spot), .int 0, .int 1] n sh I R L P := by
  obtain ⟨hM, hn6, hnb, hki, hve, hc, hsto, hhu, hbd, hta, ht, hte, hte2, hlo, hlo2, hln⟩ := id h
  have hce : ∀ i, i < nb → ce i < 36 := fun i hi => (hbd i hi).2.2.1
  obtain ⟨hk7, hv10, hc36, hs36, hu10⟩ := hbd bi hb
  refine x_aload_n (pc := 0) dX10_nextBy_0 rfl rfl ?_
  refine x_getr (pc := 1) dX10_nextBy_1 kf_RX10_101 hM.s rfl hM.f15 ?_
  refine x_iload_n (pc := 4) dX10_nextBy_4 rfl rfl ?_
  refine x_ialdn (pc := 5) (a := bi) dX10_nextBy_5 hM.s15 (by omega) (by omega) ?_
  rw [hc bi hb]
  refine x_istore (pc := 6) (lv' := [(0, .ref M), (1, .int (nI bi)), (2, .int (nI spot)), (3, .int 0), (4, .int 1), (5, .int (nI (ce bi)))]) dX10_nextBy_6 (by decide) rfl ?_
  refine x_iload (pc := 8) dX10_nextBy_8 rfl ?_
  refine x_istore (pc := 10) (lv' := [(0, .ref M), (1, .int (nI bi)), (2, .int (nI spot)), (3, .int 0), (4, .int 1), (5, .int (nI (ce bi))), (6, .int (nI (ce bi)))]) dX10_nextBy_10 (by decide) rfl ?_
  refine x_iconst (pc := 12) (v := 0) dX10_nextBy_12 (by decide) ?_
  refine x_istore (pc := 13) (lv' := [(0, .ref M), (1, .int (nI bi)), (2, .int (nI spot)), (3, .int 0), (4, .int 1), (5, .int (nI (ce bi))), (6, .int (nI (ce bi))), (7, .int 0)]) dX10_nextBy_13 (by decide) rfl ?_
  exact lm_nextBy_y h hb hsp K 4 0 (by omega)

set_option maxHeartbeats 4000000 in
set_option maxRecDepth 100000 in
theorem lm_nextBy_c {T : xT} {n : Nat} {sh : Nat → Nat × Nat} {I : xI} {R : xR} {L : xL} {P : xPost} {M nb ta te lo : Nat} {ki ve ce sto hu : Nat → Nat} {o : Option xAR} {bi spot : Nat} (h : MS sh R I M nb ki ve ce sto hu ta te lo o) (hb : bi < nb) (hsp : spot < 36) (K : P (n, sh, 0, 0) I R L (some (.int (nI (pick (cOk nb ce true ta) (cBet spot) (ce bi) 4))))) : ∀ (w i : Nat), i + w = 4 → X T zX10_nextBy 2 0 0 P 15 [(0, .ref M), (1, .int (nI bi)), (2, .int (nI spot)), (3, .int 1), (4, .int 0), (5, .int (nI (ce bi))), (6, .int (nI (pick (cOk nb ce true ta) (cBet spot) (ce bi) i))), (7, .int (nI i))] [] (n, sh, 0, 0) (I) R L := by
  obtain ⟨hM, hn6, hnb, hki, hve, hc, hsto, hhu, hbd, hta, ht, hte, hte2, hlo, hlo2, hln⟩ := id h
  have hce : ∀ i, i < nb → ce i < 36 := fun i hi => (hbd i hi).2.2.1
  obtain ⟨hk7, hv10, hc36, hs36, hu10⟩ := hbd bi hb
  intro w
  induction w with
  | zero =>
    intro i hw
    have hz : i = 4 := by omega
    have hpl : pick (cOk nb ce true ta) (cBet spot) (ce bi) i < 36 := pick_lt hc36 i
    refine x_iload (pc := 15) dX10_nextBy_15 rfl ?_
    refine x_iconst (pc := 17) (v := 4) dX10_nextBy_17 (by decide) ?_
    refine x_icmpn_ge_t (pc := 18) (tgt := 106) (a := i) (b := 4) dX10_nextBy_18 (by decide) (by omega) (by decide) (by omega) ?_
    refine x_iload (pc := 106) dX10_nextBy_106 rfl ?_
    refine x_ireturn (pc := 108) dX10_nextBy_108 ⟨_, rfl, rfl⟩ ⟨Nat.le_refl _, Nat.le_refl _⟩ ?_
    rw [hz]
    exact K
  | succ w ih =>
    intro i hw
    have hi : i < 4 := by omega
    have hpl : pick (cOk nb ce true ta) (cBet spot) (ce bi) i < 36 := pick_lt hc36 i
    refine x_iload (pc := 15) dX10_nextBy_15 rfl ?_
    refine x_iconst (pc := 17) (v := 4) dX10_nextBy_17 (by decide) ?_
    refine x_icmpn_ge_f (pc := 18) (tgt := 106) (a := i) (b := 4) dX10_nextBy_18 (by decide) (by omega) (by decide) (by omega) ?_
    refine x_aload_n (pc := 21) dX10_nextBy_21 rfl rfl ?_
    refine x_iload (pc := 22) dX10_nextBy_22 rfl ?_
    refine x_iload (pc := 24) dX10_nextBy_24 rfl ?_
    refine x_callV (pc := 26) (As := [.int _, .int _]) dX10_nextBy_26 km_X10_beside kv_X10_beside kl_RX10_304 hM.s rfl rfl (by decide) ⟨Nat.le_refl _, Nat.le_refl _⟩ rfl (Nat.le_of_ble_eq_true rfl) (Nat.le_of_ble_eq_true rfl) (m_beside hc36 hi (fun z hnx => ⟨rfl, rfl, ?_⟩) (fun hno => ⟨rfl, rfl, ?_⟩))
    · skip
      have hz36 := nxt_lt hc36 hnx
      refine x_istore (pc := 29) (lv' := [(0, .ref M), (1, .int (nI bi)), (2, .int (nI spot)), (3, .int 1), (4, .int 0), (5, .int (nI (ce bi))), (6, .int (nI (pick (cOk nb ce true ta) (cBet spot) (ce bi) i))), (7, .int (nI i)), (8, .int (nI z))]) dX10_nextBy_29 (by decide) rfl ?_
      refine x_iload (pc := 31) dX10_nextBy_31 rfl ?_
      refine x_ifn_lt (pc := 33) (a := z) dX10_nextBy_33 ⟨100, by decide⟩ (by omega) ?_
      refine x_aload_n (pc := 36) dX10_nextBy_36 rfl rfl ?_
      refine x_iload (pc := 37) dX10_nextBy_37 rfl ?_
      refine x_callV (pc := 39) (As := [.int _]) dX10_nextBy_39 km_X10_isTaken kv_X10_isTaken kl_RX10_307 hM.s rfl rfl (by decide) ⟨Nat.le_refl _, Nat.le_refl _⟩ rfl (Nat.le_of_ble_eq_true rfl) (Nat.le_of_ble_eq_true rfl) (m_isTaken (x := z) hM hnb hn6 hc hce hz36 (fun hh => ⟨rfl, rfl, ?_⟩) (fun hf => ⟨rfl, rfl, ?_⟩))
      · skip
        refine x_if_ne_t (pc := 42) (tgt := 100) dX10_nextBy_42 (by decide) (by decide) ?_
        refine x_iinc (pc := 100) (v := nI (i + 1)) (lv' := [(0, .ref M), (1, .int (nI bi)), (2, .int (nI spot)), (3, .int 1), (4, .int 0), (5, .int (nI (ce bi))), (6, .int (nI (pick (cOk nb ce true ta) (cBet spot) (ce bi) i))), (7, .int (nI (i + 1))), (8, .int (nI z))]) dX10_nextBy_100 rfl (nI_1 _) (by decide) rfl ?_
        refine x_goto (pc := 103) (tgt := 15) dX10_nextBy_103 (by decide) ?_
        have h9 := ih (i + 1) (by omega)
        rw [show pick (cOk nb ce true ta) (cBet spot) (ce bi) (i + 1) = pick (cOk nb ce true ta) (cBet spot) (ce bi) i from pick_no hnx (Or.inl (by unfold cOk; rw [hh]; rfl))] at h9
        exact X.keep [0, 1, 2, 3, 4, 5, 6, 7] rfl h9
      · skip
        refine x_if_ne_f (pc := 42) (tgt := 100) dX10_nextBy_42 (by decide) (by decide) ?_
        refine x_iload (pc := 45) dX10_nextBy_45 rfl ?_
        refine x_if_eq_t (pc := 47) (tgt := 62) dX10_nextBy_47 (by decide) (by decide) ?_
        refine x_aload_n (pc := 62) dX10_nextBy_62 rfl rfl ?_
        refine x_iload (pc := 63) dX10_nextBy_63 rfl ?_
        refine x_iload_n (pc := 65) dX10_nextBy_65 rfl rfl ?_
        refine x_callV (pc := 66) (As := [.int _, .int _]) dX10_nextBy_66 km_X10_round kv_X10_round kl_RX10_328 hM.s rfl rfl (by decide) ⟨Nat.le_refl _, Nat.le_refl _⟩ rfl (Nat.le_of_ble_eq_true rfl) (Nat.le_of_ble_eq_true rfl) (m_round hM.s hz36 hsp (⟨rfl, rfl, ?_⟩))
        have := rnd_lt hz36 hsp
        refine x_aload_n (pc := 69) dX10_nextBy_69 rfl rfl ?_
        refine x_iload (pc := 70) dX10_nextBy_70 rfl ?_
        refine x_iload_n (pc := 72) dX10_nextBy_72 rfl rfl ?_
        refine x_callV (pc := 73) (As := [.int _, .int _]) dX10_nextBy_73 km_X10_round kv_X10_round kl_RX10_328 hM.s rfl rfl (by decide) ⟨Nat.le_refl _, Nat.le_refl _⟩ rfl (Nat.le_of_ble_eq_true rfl) (Nat.le_of_ble_eq_true rfl) (m_round hM.s hpl hsp (⟨rfl, rfl, ?_⟩))
        have := rnd_lt hpl hsp
        refine x_isub (pc := 76) dX10_nextBy_76 ?_
        refine x_topi (fun v77 ev77 => ?_)
        refine x_istore (pc := 77) (lv' := [(0, .ref M), (1, .int (nI bi)), (2, .int (nI spot)), (3, .int 1), (4, .int 0), (5, .int (nI (ce bi))), (6, .int (nI (pick (cOk nb ce true ta) (cBet spot) (ce bi) i))), (7, .int (nI i)), (8, .int (nI z)), (9, .int v77)]) dX10_nextBy_77 (by decide) rfl ?_
        refine x_iload_n (pc := 79) dX10_nextBy_79 rfl rfl ?_
        refine x_if_eq_f (pc := 80) (tgt := 91) dX10_nextBy_80 (by decide) (by decide) ?_
        refine x_iload (pc := 83) dX10_nextBy_83 rfl ?_
        refine x_if_ge (pc := 85) (tgt := 100) dX10_nextBy_85 (by decide) (fun c85 => ?_) (fun c85 => ?_)
        · skip
          refine x_iinc (pc := 100) (v := nI (i + 1)) (lv' := [(0, .ref M), (1, .int (nI bi)), (2, .int (nI spot)), (3, .int 1), (4, .int 0), (5, .int (nI (ce bi))), (6, .int (nI (pick (cOk nb ce true ta) (cBet spot) (ce bi) i))), (7, .int (nI (i + 1))), (8, .int (nI z)), (9, .int v77)]) dX10_nextBy_100 rfl (nI_1 _) (by decide) rfl ?_
          refine x_goto (pc := 103) (tgt := 15) dX10_nextBy_103 (by decide) ?_
          have h9 := ih (i + 1) (by omega)
          rw [show pick (cOk nb ce true ta) (cBet spot) (ce bi) (i + 1) = pick (cOk nb ce true ta) (cBet spot) (ce bi) i from pick_no hnx (Or.inr (cBet_f (sub_ge ev77 (by omega) (by omega) c85)))] at h9
          exact X.keep [0, 1, 2, 3, 4, 5, 6, 7] rfl h9
        · skip
          refine x_goto (pc := 88) (tgt := 96) dX10_nextBy_88 (by decide) ?_
          refine x_iload (pc := 96) dX10_nextBy_96 rfl ?_
          refine x_istore (pc := 98) (lv' := [(0, .ref M), (1, .int (nI bi)), (2, .int (nI spot)), (3, .int 1), (4, .int 0), (5, .int (nI (ce bi))), (6, .int (nI z)), (7, .int (nI i)), (8, .int (nI z)), (9, .int v77)]) dX10_nextBy_98 (by decide) rfl ?_
          refine x_iinc (pc := 100) (v := nI (i + 1)) (lv' := [(0, .ref M), (1, .int (nI bi)), (2, .int (nI spot)), (3, .int 1), (4, .int 0), (5, .int (nI (ce bi))), (6, .int (nI z)), (7, .int (nI (i + 1))), (8, .int (nI z)), (9, .int v77)]) dX10_nextBy_100 rfl (nI_1 _) (by decide) rfl ?_
          refine x_goto (pc := 103) (tgt := 15) dX10_nextBy_103 (by decide) ?_
          have h9 := ih (i + 1) (by omega)
          rw [show pick (cOk nb ce true ta) (cBet spot) (ce bi) (i + 1) = z from pick_yes hnx (by unfold cOk; rw [hf]; rfl) (cBet_t (sub_lt ev77 (by omega) (by omega) c85))] at h9
          exact X.keep [0, 1, 2, 3, 4, 5, 6, 7] rfl h9
    · skip
      refine x_istore (pc := 29) (lv' := [(0, .ref M), (1, .int (nI bi)), (2, .int (nI spot)), (3, .int 1), (4, .int 0), (5, .int (nI (ce bi))), (6, .int (nI (pick (cOk nb ce true ta) (cBet spot) (ce bi) i))), (7, .int (nI i)), (8, .int (-1))]) dX10_nextBy_29 (by decide) rfl ?_
      refine x_iload (pc := 31) dX10_nextBy_31 rfl ?_
      refine x_if_lt_t (pc := 33) (tgt := 100) dX10_nextBy_33 (by decide) (by decide) ?_
      refine x_iinc (pc := 100) (v := nI (i + 1)) (lv' := [(0, .ref M), (1, .int (nI bi)), (2, .int (nI spot)), (3, .int 1), (4, .int 0), (5, .int (nI (ce bi))), (6, .int (nI (pick (cOk nb ce true ta) (cBet spot) (ce bi) i))), (7, .int (nI (i + 1))), (8, .int (-1))]) dX10_nextBy_100 rfl (nI_1 _) (by decide) rfl ?_
      refine x_goto (pc := 103) (tgt := 15) dX10_nextBy_103 (by decide) ?_
      have h9 := ih (i + 1) (by omega)
      rw [show pick (cOk nb ce true ta) (cBet spot) (ce bi) (i + 1) = pick (cOk nb ce true ta) (cBet spot) (ce bi) i from pick_none hno] at h9
      exact X.keep [0, 1, 2, 3, 4, 5, 6, 7] rfl h9

set_option maxHeartbeats 4000000 in
set_option maxRecDepth 100000 in
theorem m_nextBy_c {T : xT} {n : Nat} {sh : Nat → Nat × Nat} {I : xI} {R : xR} {L : xL} {P : xPost} {M nb ta te lo : Nat} {ki ve ce sto hu : Nat → Nat} {o : Option xAR} {bi spot : Nat} (h : MS sh R I M nb ki ve ce sto hu ta te lo o) (hb : bi < nb) (hsp : spot < 36) (K : P (n, sh, 0, 0) I R L (some (.int (nI (pick (cOk nb ce true ta) (cBet spot) (ce bi) 4))))) : XM T zX10_nextBy 2 [.ref M, .int (nI bi), .int (nI spot), .int 1, .int 0] n sh I R L P := by
  obtain ⟨hM, hn6, hnb, hki, hve, hc, hsto, hhu, hbd, hta, ht, hte, hte2, hlo, hlo2, hln⟩ := id h
  have hce : ∀ i, i < nb → ce i < 36 := fun i hi => (hbd i hi).2.2.1
  obtain ⟨hk7, hv10, hc36, hs36, hu10⟩ := hbd bi hb
  refine x_aload_n (pc := 0) dX10_nextBy_0 rfl rfl ?_
  refine x_getr (pc := 1) dX10_nextBy_1 kf_RX10_101 hM.s rfl hM.f15 ?_
  refine x_iload_n (pc := 4) dX10_nextBy_4 rfl rfl ?_
  refine x_ialdn (pc := 5) (a := bi) dX10_nextBy_5 hM.s15 (by omega) (by omega) ?_
  rw [hc bi hb]
  refine x_istore (pc := 6) (lv' := [(0, .ref M), (1, .int (nI bi)), (2, .int (nI spot)), (3, .int 1), (4, .int 0), (5, .int (nI (ce bi)))]) dX10_nextBy_6 (by decide) rfl ?_
  refine x_iload (pc := 8) dX10_nextBy_8 rfl ?_
  refine x_istore (pc := 10) (lv' := [(0, .ref M), (1, .int (nI bi)), (2, .int (nI spot)), (3, .int 1), (4, .int 0), (5, .int (nI (ce bi))), (6, .int (nI (ce bi)))]) dX10_nextBy_10 (by decide) rfl ?_
  refine x_iconst (pc := 12) (v := 0) dX10_nextBy_12 (by decide) ?_
  refine x_istore (pc := 13) (lv' := [(0, .ref M), (1, .int (nI bi)), (2, .int (nI spot)), (3, .int 1), (4, .int 0), (5, .int (nI (ce bi))), (6, .int (nI (ce bi))), (7, .int 0)]) dX10_nextBy_13 (by decide) rfl ?_
  exact lm_nextBy_c h hb hsp K 4 0 (by omega)

set_option maxHeartbeats 4000000 in
set_option maxRecDepth 100000 in
theorem lm_nextBy_s {T : xT} {n : Nat} {sh : Nat → Nat × Nat} {I : xI} {R : xR} {L : xL} {P : xPost} {M nb ta te lo : Nat} {ki ve ce sto hu : Nat → Nat} {o : Option xAR} {bi spot : Nat} (h : MS sh R I M nb ki ve ce sto hu ta te lo o) (hb : bi < nb) (hsp : spot < 36) (K : P (n, sh, 0, 0) I R L (some (.int (nI (pick (cOk nb ce false ta) (cBet spot) (ce bi) 4))))) : ∀ (w i : Nat), i + w = 4 → X T zX10_nextBy 2 0 0 P 15 [(0, .ref M), (1, .int (nI bi)), (2, .int (nI spot)), (3, .int 1), (4, .int 1), (5, .int (nI (ce bi))), (6, .int (nI (pick (cOk nb ce false ta) (cBet spot) (ce bi) i))), (7, .int (nI i))] [] (n, sh, 0, 0) (I) R L := by
  obtain ⟨hM, hn6, hnb, hki, hve, hc, hsto, hhu, hbd, hta, ht, hte, hte2, hlo, hlo2, hln⟩ := id h
  have hce : ∀ i, i < nb → ce i < 36 := fun i hi => (hbd i hi).2.2.1
  obtain ⟨hk7, hv10, hc36, hs36, hu10⟩ := hbd bi hb
  intro w
  induction w with
  | zero =>
    intro i hw
    have hz : i = 4 := by omega
    have hpl : pick (cOk nb ce false ta) (cBet spot) (ce bi) i < 36 := pick_lt hc36 i
    refine x_iload (pc := 15) dX10_nextBy_15 rfl ?_
    refine x_iconst (pc := 17) (v := 4) dX10_nextBy_17 (by decide) ?_
    refine x_icmpn_ge_t (pc := 18) (tgt := 106) (a := i) (b := 4) dX10_nextBy_18 (by decide) (by omega) (by decide) (by omega) ?_
    refine x_iload (pc := 106) dX10_nextBy_106 rfl ?_
    refine x_ireturn (pc := 108) dX10_nextBy_108 ⟨_, rfl, rfl⟩ ⟨Nat.le_refl _, Nat.le_refl _⟩ ?_
    rw [hz]
    exact K
  | succ w ih =>
    intro i hw
    have hi : i < 4 := by omega
    have hpl : pick (cOk nb ce false ta) (cBet spot) (ce bi) i < 36 := pick_lt hc36 i
    refine x_iload (pc := 15) dX10_nextBy_15 rfl ?_
    refine x_iconst (pc := 17) (v := 4) dX10_nextBy_17 (by decide) ?_
    refine x_icmpn_ge_f (pc := 18) (tgt := 106) (a := i) (b := 4) dX10_nextBy_18 (by decide) (by omega) (by decide) (by omega) ?_
    refine x_aload_n (pc := 21) dX10_nextBy_21 rfl rfl ?_
    refine x_iload (pc := 22) dX10_nextBy_22 rfl ?_
    refine x_iload (pc := 24) dX10_nextBy_24 rfl ?_
    refine x_callV (pc := 26) (As := [.int _, .int _]) dX10_nextBy_26 km_X10_beside kv_X10_beside kl_RX10_304 hM.s rfl rfl (by decide) ⟨Nat.le_refl _, Nat.le_refl _⟩ rfl (Nat.le_of_ble_eq_true rfl) (Nat.le_of_ble_eq_true rfl) (m_beside hc36 hi (fun z hnx => ⟨rfl, rfl, ?_⟩) (fun hno => ⟨rfl, rfl, ?_⟩))
    · skip
      have hz36 := nxt_lt hc36 hnx
      refine x_istore (pc := 29) (lv' := [(0, .ref M), (1, .int (nI bi)), (2, .int (nI spot)), (3, .int 1), (4, .int 1), (5, .int (nI (ce bi))), (6, .int (nI (pick (cOk nb ce false ta) (cBet spot) (ce bi) i))), (7, .int (nI i)), (8, .int (nI z))]) dX10_nextBy_29 (by decide) rfl ?_
      refine x_iload (pc := 31) dX10_nextBy_31 rfl ?_
      refine x_ifn_lt (pc := 33) (a := z) dX10_nextBy_33 ⟨100, by decide⟩ (by omega) ?_
      refine x_aload_n (pc := 36) dX10_nextBy_36 rfl rfl ?_
      refine x_iload (pc := 37) dX10_nextBy_37 rfl ?_
      refine x_callV (pc := 39) (As := [.int _]) dX10_nextBy_39 km_X10_isTaken kv_X10_isTaken kl_RX10_307 hM.s rfl rfl (by decide) ⟨Nat.le_refl _, Nat.le_refl _⟩ rfl (Nat.le_of_ble_eq_true rfl) (Nat.le_of_ble_eq_true rfl) (m_isTaken (x := z) hM hnb hn6 hc hce hz36 (fun hh => ⟨rfl, rfl, ?_⟩) (fun hf => ⟨rfl, rfl, ?_⟩))
      · skip
        refine x_if_ne_t (pc := 42) (tgt := 100) dX10_nextBy_42 (by decide) (by decide) ?_
        refine x_iinc (pc := 100) (v := nI (i + 1)) (lv' := [(0, .ref M), (1, .int (nI bi)), (2, .int (nI spot)), (3, .int 1), (4, .int 1), (5, .int (nI (ce bi))), (6, .int (nI (pick (cOk nb ce false ta) (cBet spot) (ce bi) i))), (7, .int (nI (i + 1))), (8, .int (nI z))]) dX10_nextBy_100 rfl (nI_1 _) (by decide) rfl ?_
        refine x_goto (pc := 103) (tgt := 15) dX10_nextBy_103 (by decide) ?_
        have h9 := ih (i + 1) (by omega)
        rw [show pick (cOk nb ce false ta) (cBet spot) (ce bi) (i + 1) = pick (cOk nb ce false ta) (cBet spot) (ce bi) i from pick_no hnx (Or.inl (by unfold cOk; rw [hh]; rfl))] at h9
        exact X.keep [0, 1, 2, 3, 4, 5, 6, 7] rfl h9
      · skip
        refine x_if_ne_f (pc := 42) (tgt := 100) dX10_nextBy_42 (by decide) (by decide) ?_
        refine x_iload (pc := 45) dX10_nextBy_45 rfl ?_
        refine x_if_eq_f (pc := 47) (tgt := 62) dX10_nextBy_47 (by decide) (by decide) ?_
        refine x_iload (pc := 50) dX10_nextBy_50 rfl ?_
        refine x_aload_n (pc := 52) dX10_nextBy_52 rfl rfl ?_
        refine x_get (pc := 53) dX10_nextBy_53 kf_RX10_92 hM.s rfl ?_
        rw [hta]
        refine x_icmpn_ne (pc := 56) (tgt := 62) (a := z) (b := ta) dX10_nextBy_56 (by decide) (by omega) (by omega) (fun c56 => ?_) (fun c56 => ?_)
        · skip
          refine x_aload_n (pc := 62) dX10_nextBy_62 rfl rfl ?_
          refine x_iload (pc := 63) dX10_nextBy_63 rfl ?_
          refine x_iload_n (pc := 65) dX10_nextBy_65 rfl rfl ?_
          refine x_callV (pc := 66) (As := [.int _, .int _]) dX10_nextBy_66 km_X10_round kv_X10_round kl_RX10_328 hM.s rfl rfl (by decide) ⟨Nat.le_refl _, Nat.le_refl _⟩ rfl (Nat.le_of_ble_eq_true rfl) (Nat.le_of_ble_eq_true rfl) (m_round hM.s hz36 hsp (⟨rfl, rfl, ?_⟩))
          have := rnd_lt hz36 hsp
          refine x_aload_n (pc := 69) dX10_nextBy_69 rfl rfl ?_
          refine x_iload (pc := 70) dX10_nextBy_70 rfl ?_
          refine x_iload_n (pc := 72) dX10_nextBy_72 rfl rfl ?_
          refine x_callV (pc := 73) (As := [.int _, .int _]) dX10_nextBy_73 km_X10_round kv_X10_round kl_RX10_328 hM.s rfl rfl (by decide) ⟨Nat.le_refl _, Nat.le_refl _⟩ rfl (Nat.le_of_ble_eq_true rfl) (Nat.le_of_ble_eq_true rfl) (m_round hM.s hpl hsp (⟨rfl, rfl, ?_⟩))
          have := rnd_lt hpl hsp
          refine x_isub (pc := 76) dX10_nextBy_76 ?_
          refine x_topi (fun v77 ev77 => ?_)
          refine x_istore (pc := 77) (lv' := [(0, .ref M), (1, .int (nI bi)), (2, .int (nI spot)), (3, .int 1), (4, .int 1), (5, .int (nI (ce bi))), (6, .int (nI (pick (cOk nb ce false ta) (cBet spot) (ce bi) i))), (7, .int (nI i)), (8, .int (nI z)), (9, .int v77)]) dX10_nextBy_77 (by decide) rfl ?_
          refine x_iload_n (pc := 79) dX10_nextBy_79 rfl rfl ?_
          refine x_if_eq_f (pc := 80) (tgt := 91) dX10_nextBy_80 (by decide) (by decide) ?_
          refine x_iload (pc := 83) dX10_nextBy_83 rfl ?_
          refine x_if_ge (pc := 85) (tgt := 100) dX10_nextBy_85 (by decide) (fun c85 => ?_) (fun c85 => ?_)
          · skip
            refine x_iinc (pc := 100) (v := nI (i + 1)) (lv' := [(0, .ref M), (1, .int (nI bi)), (2, .int (nI spot)), (3, .int 1), (4, .int 1), (5, .int (nI (ce bi))), (6, .int (nI (pick (cOk nb ce false ta) (cBet spot) (ce bi) i))), (7, .int (nI (i + 1))), (8, .int (nI z)), (9, .int v77)]) dX10_nextBy_100 rfl (nI_1 _) (by decide) rfl ?_
            refine x_goto (pc := 103) (tgt := 15) dX10_nextBy_103 (by decide) ?_
            have h9 := ih (i + 1) (by omega)
            rw [show pick (cOk nb ce false ta) (cBet spot) (ce bi) (i + 1) = pick (cOk nb ce false ta) (cBet spot) (ce bi) i from pick_no hnx (Or.inr (cBet_f (sub_ge ev77 (by omega) (by omega) c85)))] at h9
            exact X.keep [0, 1, 2, 3, 4, 5, 6, 7] rfl h9
          · skip
            refine x_goto (pc := 88) (tgt := 96) dX10_nextBy_88 (by decide) ?_
            refine x_iload (pc := 96) dX10_nextBy_96 rfl ?_
            refine x_istore (pc := 98) (lv' := [(0, .ref M), (1, .int (nI bi)), (2, .int (nI spot)), (3, .int 1), (4, .int 1), (5, .int (nI (ce bi))), (6, .int (nI z)), (7, .int (nI i)), (8, .int (nI z)), (9, .int v77)]) dX10_nextBy_98 (by decide) rfl ?_
            refine x_iinc (pc := 100) (v := nI (i + 1)) (lv' := [(0, .ref M), (1, .int (nI bi)), (2, .int (nI spot)), (3, .int 1), (4, .int 1), (5, .int (nI (ce bi))), (6, .int (nI z)), (7, .int (nI (i + 1))), (8, .int (nI z)), (9, .int v77)]) dX10_nextBy_100 rfl (nI_1 _) (by decide) rfl ?_
            refine x_goto (pc := 103) (tgt := 15) dX10_nextBy_103 (by decide) ?_
            have h9 := ih (i + 1) (by omega)
            rw [show pick (cOk nb ce false ta) (cBet spot) (ce bi) (i + 1) = z from pick_yes hnx (by unfold cOk; rw [hf]; simp [c56]) (cBet_t (sub_lt ev77 (by omega) (by omega) c85))] at h9
            exact X.keep [0, 1, 2, 3, 4, 5, 6, 7] rfl h9
        · skip
          refine x_goto (pc := 59) (tgt := 100) dX10_nextBy_59 (by decide) ?_
          refine x_iinc (pc := 100) (v := nI (i + 1)) (lv' := [(0, .ref M), (1, .int (nI bi)), (2, .int (nI spot)), (3, .int 1), (4, .int 1), (5, .int (nI (ce bi))), (6, .int (nI (pick (cOk nb ce false ta) (cBet spot) (ce bi) i))), (7, .int (nI (i + 1))), (8, .int (nI z))]) dX10_nextBy_100 rfl (nI_1 _) (by decide) rfl ?_
          refine x_goto (pc := 103) (tgt := 15) dX10_nextBy_103 (by decide) ?_
          have h9 := ih (i + 1) (by omega)
          rw [show pick (cOk nb ce false ta) (cBet spot) (ce bi) (i + 1) = pick (cOk nb ce false ta) (cBet spot) (ce bi) i from pick_no hnx (Or.inl (by unfold cOk; simp [c56]))] at h9
          exact X.keep [0, 1, 2, 3, 4, 5, 6, 7] rfl h9
    · skip
      refine x_istore (pc := 29) (lv' := [(0, .ref M), (1, .int (nI bi)), (2, .int (nI spot)), (3, .int 1), (4, .int 1), (5, .int (nI (ce bi))), (6, .int (nI (pick (cOk nb ce false ta) (cBet spot) (ce bi) i))), (7, .int (nI i)), (8, .int (-1))]) dX10_nextBy_29 (by decide) rfl ?_
      refine x_iload (pc := 31) dX10_nextBy_31 rfl ?_
      refine x_if_lt_t (pc := 33) (tgt := 100) dX10_nextBy_33 (by decide) (by decide) ?_
      refine x_iinc (pc := 100) (v := nI (i + 1)) (lv' := [(0, .ref M), (1, .int (nI bi)), (2, .int (nI spot)), (3, .int 1), (4, .int 1), (5, .int (nI (ce bi))), (6, .int (nI (pick (cOk nb ce false ta) (cBet spot) (ce bi) i))), (7, .int (nI (i + 1))), (8, .int (-1))]) dX10_nextBy_100 rfl (nI_1 _) (by decide) rfl ?_
      refine x_goto (pc := 103) (tgt := 15) dX10_nextBy_103 (by decide) ?_
      have h9 := ih (i + 1) (by omega)
      rw [show pick (cOk nb ce false ta) (cBet spot) (ce bi) (i + 1) = pick (cOk nb ce false ta) (cBet spot) (ce bi) i from pick_none hno] at h9
      exact X.keep [0, 1, 2, 3, 4, 5, 6, 7] rfl h9

set_option maxHeartbeats 4000000 in
set_option maxRecDepth 100000 in
theorem m_nextBy_s {T : xT} {n : Nat} {sh : Nat → Nat × Nat} {I : xI} {R : xR} {L : xL} {P : xPost} {M nb ta te lo : Nat} {ki ve ce sto hu : Nat → Nat} {o : Option xAR} {bi spot : Nat} (h : MS sh R I M nb ki ve ce sto hu ta te lo o) (hb : bi < nb) (hsp : spot < 36) (K : P (n, sh, 0, 0) I R L (some (.int (nI (pick (cOk nb ce false ta) (cBet spot) (ce bi) 4))))) : XM T zX10_nextBy 2 [.ref M, .int (nI bi), .int (nI spot), .int 1, .int 1] n sh I R L P := by
  obtain ⟨hM, hn6, hnb, hki, hve, hc, hsto, hhu, hbd, hta, ht, hte, hte2, hlo, hlo2, hln⟩ := id h
  have hce : ∀ i, i < nb → ce i < 36 := fun i hi => (hbd i hi).2.2.1
  obtain ⟨hk7, hv10, hc36, hs36, hu10⟩ := hbd bi hb
  refine x_aload_n (pc := 0) dX10_nextBy_0 rfl rfl ?_
  refine x_getr (pc := 1) dX10_nextBy_1 kf_RX10_101 hM.s rfl hM.f15 ?_
  refine x_iload_n (pc := 4) dX10_nextBy_4 rfl rfl ?_
  refine x_ialdn (pc := 5) (a := bi) dX10_nextBy_5 hM.s15 (by omega) (by omega) ?_
  rw [hc bi hb]
  refine x_istore (pc := 6) (lv' := [(0, .ref M), (1, .int (nI bi)), (2, .int (nI spot)), (3, .int 1), (4, .int 1), (5, .int (nI (ce bi)))]) dX10_nextBy_6 (by decide) rfl ?_
  refine x_iload (pc := 8) dX10_nextBy_8 rfl ?_
  refine x_istore (pc := 10) (lv' := [(0, .ref M), (1, .int (nI bi)), (2, .int (nI spot)), (3, .int 1), (4, .int 1), (5, .int (nI (ce bi))), (6, .int (nI (ce bi)))]) dX10_nextBy_10 (by decide) rfl ?_
  refine x_iconst (pc := 12) (v := 0) dX10_nextBy_12 (by decide) ?_
  refine x_istore (pc := 13) (lv' := [(0, .ref M), (1, .int (nI bi)), (2, .int (nI spot)), (3, .int 1), (4, .int 1), (5, .int (nI (ce bi))), (6, .int (nI (ce bi))), (7, .int 0)]) dX10_nextBy_13 (by decide) rfl ?_
  exact lm_nextBy_s h hb hsp K 4 0 (by omega)

set_option maxHeartbeats 4000000 in
set_option maxRecDepth 100000 in
theorem m_layLines {T : xT} {n : Nat} {sh : Nat → Nat × Nat} {I : xI} {R : xR} {L : xL} {P : xPost} {M nb ta te lo : Nat} {ki ve ce sto hu : Nat → Nat} {o : Option xAR} {bi : Nat} (h : MS sh R I M nb ki ve ce sto hu ta te lo o) (hb : bi < nb) (K : ∀ I2 : xI, mdFr M I I2 → I2 M 35 = nI (ylOf (lnAt (lnO o) nb ce hu te bi) lo) → I2 M 36 = nI (clOf (lnAt (lnO o) nb ce hu te bi) (ki bi) (ve bi) lo) → P (n, sh, 0, 0) I2 R L none) : XM T zX10_layLines 3 [.ref M, .int (nI bi)] n sh I R L P := by
  obtain ⟨hM, hn6, hnb, hki, hve, hc, hsto, hhu, hbd, hta, ht, hte, hte2, hlo, hlo2, hln⟩ := id h
  have hce : ∀ i, i < nb → ce i < 36 := fun i hi => (hbd i hi).2.2.1
  obtain ⟨hk7, hv10, hc36, hs36, hu10⟩ := hbd bi hb
  have hn7 : nearN nb ce bi < 100 := Nat.lt_of_le_of_lt (cnt_le nb) (by omega)
  have hs7 : shutN nb ce (ce bi) < 100 := Nat.lt_of_le_of_lt (cnt_le 4) (by omega)
  have hz0 := sumO_lt (w := 0) (a1 := bi) (a2 := hu bi) (a3 := nearN nb ce bi) (a4 := shutN nb ce (ce bi)) (a5 := te % 60) hln
  have hz1 := sumO_lt (w := 1) (a1 := bi) (a2 := hu bi) (a3 := nearN nb ce bi) (a4 := shutN nb ce (ce bi)) (a5 := te % 60) hln
  have hmn : mn 9 (sumO o 0 bi (hu bi) (nearN nb ce bi) (shutN nb ce (ce bi)) (te % 60)) = mn (sumO o 0 bi (hu bi) (nearN nb ce bi) (shutN nb ce (ce bi)) (te % 60)) 9 := by unfold mn; split <;> split <;> omega
  have hm9 := mn_le' (a := 9) (b := sumO o 0 bi (hu bi) (nearN nb ce bi) (shutN nb ce (ce bi)) (te % 60))
  refine x_aload_n (pc := 0) dX10_layLines_0 rfl rfl ?_
  refine x_aload_n (pc := 1) dX10_layLines_1 rfl rfl ?_
  refine x_iload_n (pc := 2) dX10_layLines_2 rfl rfl ?_
  refine x_callV (pc := 3) (As := [.int _]) dX10_layLines_3 km_X10_nearOf kv_X10_nearOf kl_RX10_316 hM.s rfl rfl (by decide) ⟨Nat.le_refl _, Nat.le_refl _⟩ rfl (Nat.le_of_ble_eq_true rfl) (Nat.le_of_ble_eq_true rfl) (m_nearOf hM hnb hn6 hc hce hb (⟨rfl, rfl, ?_⟩))
  refine x_put (pc := 6) dX10_layLines_6 kf_RX10_111 hM.s rfl (Or.inl kb_10_33) ?_
  refine x_aload_n (pc := 9) dX10_layLines_9 rfl rfl ?_
  refine x_aload_n (pc := 10) dX10_layLines_10 rfl rfl ?_
  refine x_iload_n (pc := 11) dX10_layLines_11 rfl rfl ?_
  refine x_callV (pc := 12) (As := [.int _]) dX10_layLines_12 km_X10_closedOf kv_X10_closedOf kl_RX10_319 hM.s rfl rfl (by decide) ⟨Nat.le_refl _, Nat.le_refl _⟩ rfl (Nat.le_of_ble_eq_true rfl) (Nat.le_of_ble_eq_true rfl) (m_closedOf hM (by rw [up2_k (by decide)]; exact hnb) hn6 (fun i hi => by rw [up2_a (by omega)]; exact hc i hi) hce hb (⟨rfl, rfl, ?_⟩))
  refine x_put (pc := 15) dX10_layLines_15 kf_RX10_114 hM.s rfl (Or.inl kb_10_34) ?_
  have fA : mdFr M I (up2 (up2 I M 33 (nI (nearN nb ce bi))) M 34 (nI (shutN nb ce (ce bi)))) := (mdFr.fld (by omega)).tr (mdFr.fld (by omega))
  have e33 : ∀ J, J = up2 (up2 I M 33 (nI (nearN nb ce bi))) M 34 (nI (shutN nb ce (ce bi))) → J M 33 = nI (nearN nb ce bi) := fun J e => by rw [e, up2_k (by decide), up2_s]
  have e34 : ∀ J, J = up2 (up2 I M 33 (nI (nearN nb ce bi))) M 34 (nI (shutN nb ce (ce bi))) → J M 34 = nI (shutN nb ce (ce bi)) := fun J e => by rw [e, up2_s]
  refine x_aload_n (pc := 18) dX10_layLines_18 rfl rfl ?_
  refine x_bipush (pc := 19) (v := 9) dX10_layLines_19 (by decide) ?_
  refine x_aload_n (pc := 21) dX10_layLines_21 rfl rfl ?_
  refine x_iconst (pc := 22) (v := 0) dX10_layLines_22 (by decide) ?_
  refine x_iload_n (pc := 23) dX10_layLines_23 rfl rfl ?_
  refine x_callV (pc := 24) (As := [.int _, .int _]) dX10_layLines_24 km_X10_sumOf kv_X10_sumOf kl_RX10_322 hM.s rfl rfl (by decide) ⟨Nat.le_refl _, Nat.le_refl _⟩ rfl (Nat.le_of_ble_eq_true rfl) (Nat.le_of_ble_eq_true rfl) (m_sumOf (o := o) (a2 := hu bi) (a3 := nearN nb ce bi) (a4 := shutN nb ce (ce bi)) (w := 0) (h.keep fA).1 (by omega) ((h.keep fA).2.2.2.2.2.2.2.1 bi hb) (e33 _ rfl) (e34 _ rfl) (h.keep fA).2.2.2.2.2.2.2.2.2.2.2.1 hte2 ⟨by omega, by omega, by omega⟩ (by decide) (h.keep fA).2.2.2.2.2.2.2.2.2.2.2.2.2.2.2 (fun J0 g0 => ⟨rfl, rfl, ?_⟩))
  have fB : mdFr M I J0 := fA.tr (mdFr.pile g0)
  refine x_callV (pc := 27) (As := [.int _, .int _]) dX10_layLines_27 km_X10_min kv_X10_min kl_RX10_325 hM.s rfl rfl (by decide) ⟨Nat.le_refl _, Nat.le_refl _⟩ rfl (Nat.le_of_ble_eq_true rfl) (Nat.le_of_ble_eq_true rfl) (m_min (a := 9) hM.s (by decide) (by omega) (⟨rfl, rfl, ?_⟩))
  refine x_istore_n (pc := 30) (lv' := [(0, .ref M), (1, .int (nI bi)), (2, .int (nI (mn 9 (sumO o 0 bi (hu bi) (nearN nb ce bi) (shutN nb ce (ce bi)) (te % 60)))))]) dX10_layLines_30 rfl (by decide) rfl ?_
  refine x_aload_n (pc := 31) dX10_layLines_31 rfl rfl ?_
  refine x_getr (pc := 32) dX10_layLines_32 kf_RX10_104 hM.s rfl hM.f16 ?_
  refine x_iload_n (pc := 35) dX10_layLines_35 rfl rfl ?_
  refine x_ialdn (pc := 36) (a := bi) dX10_layLines_36 hM.s16 (by omega) (by omega) ?_
  rw [(h.keep fB).2.2.2.1 bi hb]
  refine x_istore_n (pc := 37) (lv' := [(0, .ref M), (1, .int (nI bi)), (2, .int (nI (mn 9 (sumO o 0 bi (hu bi) (nearN nb ce bi) (shutN nb ce (ce bi)) (te % 60))))), (3, .int (nI (ki bi)))]) dX10_layLines_37 rfl (by decide) rfl ?_
  refine x_aload_n (pc := 38) dX10_layLines_38 rfl rfl ?_
  refine x_aload_n (pc := 39) dX10_layLines_39 rfl rfl ?_
  refine x_aload_n (pc := 40) dX10_layLines_40 rfl rfl ?_
  refine x_iconst (pc := 41) (v := 1) dX10_layLines_41 (by decide) ?_
  refine x_iload_n (pc := 42) dX10_layLines_42 rfl rfl ?_
  refine x_callV (pc := 43) (As := [.int _, .int _]) dX10_layLines_43 km_X10_sumOf kv_X10_sumOf kl_RX10_322 hM.s rfl rfl (by decide) ⟨Nat.le_refl _, Nat.le_refl _⟩ rfl (Nat.le_of_ble_eq_true rfl) (Nat.le_of_ble_eq_true rfl) (m_sumOf (o := o) (a2 := hu bi) (a3 := nearN nb ce bi) (a4 := shutN nb ce (ce bi)) (w := 1) (h.keep fB).1 (by omega) ((h.keep fB).2.2.2.2.2.2.2.1 bi hb) (by rw [g0 _ (by omega)]; exact e33 _ rfl) (by rw [g0 _ (by omega)]; exact e34 _ rfl) (h.keep fB).2.2.2.2.2.2.2.2.2.2.2.1 hte2 ⟨by omega, by omega, by omega⟩ (by decide) (h.keep fB).2.2.2.2.2.2.2.2.2.2.2.2.2.2.2 (fun J1 g1 => ⟨rfl, rfl, ?_⟩))
  have fC : mdFr M I J1 := fB.tr (mdFr.pile g1)
  refine x_iload_n (pc := 46) dX10_layLines_46 rfl rfl ?_
  refine x_ifn_le (pc := 47) (tgt := 56) (a := (mn 9 (sumO o 0 bi (hu bi) (nearN nb ce bi) (shutN nb ce (ce bi)) (te % 60)))) dX10_layLines_47 (by decide) (by omega) (fun c47 => ?_) (fun c47 => ?_)
  · skip
    refine x_iconst (pc := 56) (v := 0) dX10_layLines_56 (by decide) ?_
    refine x_callV (pc := 57) (As := [.int _, .int _]) dX10_layLines_57 km_X10_min kv_X10_min kl_RX10_325 hM.s rfl rfl (by decide) ⟨Nat.le_refl _, Nat.le_refl _⟩ rfl (Nat.le_of_ble_eq_true rfl) (Nat.le_of_ble_eq_true rfl) (m_min (a := sumO o 1 bi (hu bi) (nearN nb ce bi) (shutN nb ce (ce bi)) (te % 60)) (b := 0) hM.s (by omega) (by decide) (⟨rfl, rfl, ?_⟩))
    have hcm : mn (sumO o 1 bi (hu bi) (nearN nb ce bi) (shutN nb ce (ce bi)) (te % 60)) 0 = cm (mn 9 (sumO o 0 bi (hu bi) (nearN nb ce bi) (shutN nb ce (ce bi)) (te % 60))) (sumO o 1 bi (hu bi) (nearN nb ce bi) (shutN nb ce (ce bi)) (te % 60)) := by rw [show mn 9 (sumO o 0 bi (hu bi) (nearN nb ce bi) (shutN nb ce (ce bi)) (te % 60)) = 0 by omega]; exact cm_0
    rw [hcm]
    have hcl9 := cm_le (y := mn 9 (sumO o 0 bi (hu bi) (nearN nb ce bi) (shutN nb ce (ce bi)) (te % 60))) (c := sumO o 1 bi (hu bi) (nearN nb ce bi) (shutN nb ce (ce bi)) (te % 60))
    refine x_iload_n (pc := 60) dX10_layLines_60 rfl rfl ?_
    refine x_iconst (pc := 61) (v := 2) dX10_layLines_61 (by decide) ?_
    refine x_icmpn_eq (pc := 62) (tgt := 71) (a := (ki bi)) (b := 2) dX10_layLines_62 (by decide) (by omega) (by decide) (fun c62 => ?_) (fun c62 => ?_)
    · skip
      refine x_aload_n (pc := 71) dX10_layLines_71 rfl rfl ?_
      refine x_getr (pc := 72) dX10_layLines_72 kf_RX10_26 hM.s rfl hM.f1 ?_
      refine x_iload_n (pc := 75) dX10_layLines_75 rfl rfl ?_
      refine x_ialdn (pc := 76) (a := bi) dX10_layLines_76 hM.s1 (by omega) (by omega) ?_
      rw [(h.keep fC).2.2.2.2.1 bi hb]
      refine x_goto (pc := 77) (tgt := 81) dX10_layLines_77 (by decide) ?_
      refine x_iaddn (pc := 81) (a := (cm (mn 9 (sumO o 0 bi (hu bi) (nearN nb ce bi) (shutN nb ce (ce bi)) (te % 60))) (sumO o 1 bi (hu bi) (nearN nb ce bi) (shutN nb ce (ce bi)) (te % 60)))) (b := (ve bi)) dX10_layLines_81 ?_
      refine x_aload_n (pc := 82) dX10_layLines_82 rfl rfl ?_
      refine x_get (pc := 83) dX10_layLines_83 kf_RX10_98 hM.s rfl ?_
      rw [(h.keep fC).2.2.2.2.2.2.2.2.2.2.2.2.2.1]
      refine x_iaddn (pc := 86) (a := ((cm (mn 9 (sumO o 0 bi (hu bi) (nearN nb ce bi) (shutN nb ce (ce bi)) (te % 60))) (sumO o 1 bi (hu bi) (nearN nb ce bi) (shutN nb ce (ce bi)) (te % 60))) + (ve bi))) (b := lo) dX10_layLines_86 ?_
      refine x_put (pc := 87) dX10_layLines_87 kf_RX10_120 hM.s rfl (Or.inl kb_10_36) ?_
      refine x_aload_n (pc := 90) dX10_layLines_90 rfl rfl ?_
      refine x_iload_n (pc := 91) dX10_layLines_91 rfl rfl ?_
      refine x_aload_n (pc := 92) dX10_layLines_92 rfl rfl ?_
      refine x_get (pc := 93) dX10_layLines_93 kf_RX10_98 hM.s rfl ?_
      rw [up2_k (by decide), (h.keep fC).2.2.2.2.2.2.2.2.2.2.2.2.2.1]
      refine x_iaddn (pc := 96) (a := (mn 9 (sumO o 0 bi (hu bi) (nearN nb ce bi) (shutN nb ce (ce bi)) (te % 60)))) (b := lo) dX10_layLines_96 ?_
      refine x_put (pc := 97) dX10_layLines_97 kf_RX10_117 hM.s rfl (Or.inl kb_10_35) ?_
      refine x_return (pc := 100) dX10_layLines_100 rfl ⟨Nat.le_refl _, Nat.le_refl _⟩ ?_
      have h1 : isOne (ki bi) 2 = true := (isOne2 hk7).mpr (by omega)
      refine K _ (fC.tr ((mdFr.fld (by omega)).tr (mdFr.fld (by omega)))) ?_ ?_
      · rw [up2_s]
        unfold ylOf lnAt
        rw [lnO_eq]
        exact congrArg (fun z => nI (z + lo)) hmn
      · rw [up2_k (by decide), up2_s]
        unfold clOf lnAt
        rw [lnO_eq, h1]
        simp only [if_true, ↓reduceIte]
        try rw [← hmn]
    · skip
      refine x_iload_n (pc := 65) dX10_layLines_65 rfl rfl ?_
      refine x_bipush (pc := 66) (v := 6) dX10_layLines_66 (by decide) ?_
      refine x_icmpn_ne (pc := 68) (tgt := 80) (a := (ki bi)) (b := 6) dX10_layLines_68 (by decide) (by omega) (by decide) (fun c68 => ?_) (fun c68 => ?_)
      · skip
        refine x_iconst (pc := 80) (v := 0) dX10_layLines_80 (by decide) ?_
        refine x_iaddn (pc := 81) (a := (cm (mn 9 (sumO o 0 bi (hu bi) (nearN nb ce bi) (shutN nb ce (ce bi)) (te % 60))) (sumO o 1 bi (hu bi) (nearN nb ce bi) (shutN nb ce (ce bi)) (te % 60)))) (b := 0) dX10_layLines_81 ?_
        rw [Nat.add_zero]
        refine x_aload_n (pc := 82) dX10_layLines_82 rfl rfl ?_
        refine x_get (pc := 83) dX10_layLines_83 kf_RX10_98 hM.s rfl ?_
        rw [(h.keep fC).2.2.2.2.2.2.2.2.2.2.2.2.2.1]
        refine x_iaddn (pc := 86) (a := (cm (mn 9 (sumO o 0 bi (hu bi) (nearN nb ce bi) (shutN nb ce (ce bi)) (te % 60))) (sumO o 1 bi (hu bi) (nearN nb ce bi) (shutN nb ce (ce bi)) (te % 60)))) (b := lo) dX10_layLines_86 ?_
        refine x_put (pc := 87) dX10_layLines_87 kf_RX10_120 hM.s rfl (Or.inl kb_10_36) ?_
        refine x_aload_n (pc := 90) dX10_layLines_90 rfl rfl ?_
        refine x_iload_n (pc := 91) dX10_layLines_91 rfl rfl ?_
        refine x_aload_n (pc := 92) dX10_layLines_92 rfl rfl ?_
        refine x_get (pc := 93) dX10_layLines_93 kf_RX10_98 hM.s rfl ?_
        rw [up2_k (by decide), (h.keep fC).2.2.2.2.2.2.2.2.2.2.2.2.2.1]
        refine x_iaddn (pc := 96) (a := (mn 9 (sumO o 0 bi (hu bi) (nearN nb ce bi) (shutN nb ce (ce bi)) (te % 60)))) (b := lo) dX10_layLines_96 ?_
        refine x_put (pc := 97) dX10_layLines_97 kf_RX10_117 hM.s rfl (Or.inl kb_10_35) ?_
        refine x_return (pc := 100) dX10_layLines_100 rfl ⟨Nat.le_refl _, Nat.le_refl _⟩ ?_
        have h1 : isOne (ki bi) 2 = false := by cases hx : isOne (ki bi) 2 with
          | false => rfl
          | true => have := (isOne2 hk7).mp hx; omega
        refine K _ (fC.tr ((mdFr.fld (by omega)).tr (mdFr.fld (by omega)))) ?_ ?_
        · rw [up2_s]
          unfold ylOf lnAt
          rw [lnO_eq]
          exact congrArg (fun z => nI (z + lo)) hmn
        · rw [up2_k (by decide), up2_s]
          unfold clOf lnAt
          rw [lnO_eq, h1]
          simp only [Bool.false_eq_true, if_false, ↓reduceIte, Nat.add_zero]
          try rw [← hmn]
      · skip
        refine x_aload_n (pc := 71) dX10_layLines_71 rfl rfl ?_
        refine x_getr (pc := 72) dX10_layLines_72 kf_RX10_26 hM.s rfl hM.f1 ?_
        refine x_iload_n (pc := 75) dX10_layLines_75 rfl rfl ?_
        refine x_ialdn (pc := 76) (a := bi) dX10_layLines_76 hM.s1 (by omega) (by omega) ?_
        rw [(h.keep fC).2.2.2.2.1 bi hb]
        refine x_goto (pc := 77) (tgt := 81) dX10_layLines_77 (by decide) ?_
        refine x_iaddn (pc := 81) (a := (cm (mn 9 (sumO o 0 bi (hu bi) (nearN nb ce bi) (shutN nb ce (ce bi)) (te % 60))) (sumO o 1 bi (hu bi) (nearN nb ce bi) (shutN nb ce (ce bi)) (te % 60)))) (b := (ve bi)) dX10_layLines_81 ?_
        refine x_aload_n (pc := 82) dX10_layLines_82 rfl rfl ?_
        refine x_get (pc := 83) dX10_layLines_83 kf_RX10_98 hM.s rfl ?_
        rw [(h.keep fC).2.2.2.2.2.2.2.2.2.2.2.2.2.1]
        refine x_iaddn (pc := 86) (a := ((cm (mn 9 (sumO o 0 bi (hu bi) (nearN nb ce bi) (shutN nb ce (ce bi)) (te % 60))) (sumO o 1 bi (hu bi) (nearN nb ce bi) (shutN nb ce (ce bi)) (te % 60))) + (ve bi))) (b := lo) dX10_layLines_86 ?_
        refine x_put (pc := 87) dX10_layLines_87 kf_RX10_120 hM.s rfl (Or.inl kb_10_36) ?_
        refine x_aload_n (pc := 90) dX10_layLines_90 rfl rfl ?_
        refine x_iload_n (pc := 91) dX10_layLines_91 rfl rfl ?_
        refine x_aload_n (pc := 92) dX10_layLines_92 rfl rfl ?_
        refine x_get (pc := 93) dX10_layLines_93 kf_RX10_98 hM.s rfl ?_
        rw [up2_k (by decide), (h.keep fC).2.2.2.2.2.2.2.2.2.2.2.2.2.1]
        refine x_iaddn (pc := 96) (a := (mn 9 (sumO o 0 bi (hu bi) (nearN nb ce bi) (shutN nb ce (ce bi)) (te % 60)))) (b := lo) dX10_layLines_96 ?_
        refine x_put (pc := 97) dX10_layLines_97 kf_RX10_117 hM.s rfl (Or.inl kb_10_35) ?_
        refine x_return (pc := 100) dX10_layLines_100 rfl ⟨Nat.le_refl _, Nat.le_refl _⟩ ?_
        have h1 : isOne (ki bi) 2 = true := (isOne2 hk7).mpr (by omega)
        refine K _ (fC.tr ((mdFr.fld (by omega)).tr (mdFr.fld (by omega)))) ?_ ?_
        · rw [up2_s]
          unfold ylOf lnAt
          rw [lnO_eq]
          exact congrArg (fun z => nI (z + lo)) hmn
        · rw [up2_k (by decide), up2_s]
          unfold clOf lnAt
          rw [lnO_eq, h1]
          simp only [if_true, ↓reduceIte]
          try rw [← hmn]
  · skip
    refine x_iload_n (pc := 50) dX10_layLines_50 rfl rfl ?_
    refine x_iconst (pc := 51) (v := 1) dX10_layLines_51 (by decide) ?_
    refine x_isubn (pc := 52) (a := (mn 9 (sumO o 0 bi (hu bi) (nearN nb ce bi) (shutN nb ce (ce bi)) (te % 60)))) (b := 1) dX10_layLines_52 (by omega) ?_
    refine x_goto (pc := 53) (tgt := 57) dX10_layLines_53 (by decide) ?_
    refine x_callV (pc := 57) (As := [.int _, .int _]) dX10_layLines_57 km_X10_min kv_X10_min kl_RX10_325 hM.s rfl rfl (by decide) ⟨Nat.le_refl _, Nat.le_refl _⟩ rfl (Nat.le_of_ble_eq_true rfl) (Nat.le_of_ble_eq_true rfl) (m_min hM.s (by omega) (by omega) (⟨rfl, rfl, ?_⟩))
    have hcm : mn (sumO o 1 bi (hu bi) (nearN nb ce bi) (shutN nb ce (ce bi)) (te % 60)) (mn 9 (sumO o 0 bi (hu bi) (nearN nb ce bi) (shutN nb ce (ce bi)) (te % 60)) - 1) = cm (mn 9 (sumO o 0 bi (hu bi) (nearN nb ce bi) (shutN nb ce (ce bi)) (te % 60))) (sumO o 1 bi (hu bi) (nearN nb ce bi) (shutN nb ce (ce bi)) (te % 60)) := cm_mn (by omega)
    rw [hcm]
    have hcl9 := cm_le (y := mn 9 (sumO o 0 bi (hu bi) (nearN nb ce bi) (shutN nb ce (ce bi)) (te % 60))) (c := sumO o 1 bi (hu bi) (nearN nb ce bi) (shutN nb ce (ce bi)) (te % 60))
    refine x_iload_n (pc := 60) dX10_layLines_60 rfl rfl ?_
    refine x_iconst (pc := 61) (v := 2) dX10_layLines_61 (by decide) ?_
    refine x_icmpn_eq (pc := 62) (tgt := 71) (a := (ki bi)) (b := 2) dX10_layLines_62 (by decide) (by omega) (by decide) (fun c62 => ?_) (fun c62 => ?_)
    · skip
      refine x_aload_n (pc := 71) dX10_layLines_71 rfl rfl ?_
      refine x_getr (pc := 72) dX10_layLines_72 kf_RX10_26 hM.s rfl hM.f1 ?_
      refine x_iload_n (pc := 75) dX10_layLines_75 rfl rfl ?_
      refine x_ialdn (pc := 76) (a := bi) dX10_layLines_76 hM.s1 (by omega) (by omega) ?_
      rw [(h.keep fC).2.2.2.2.1 bi hb]
      refine x_goto (pc := 77) (tgt := 81) dX10_layLines_77 (by decide) ?_
      refine x_iaddn (pc := 81) (a := (cm (mn 9 (sumO o 0 bi (hu bi) (nearN nb ce bi) (shutN nb ce (ce bi)) (te % 60))) (sumO o 1 bi (hu bi) (nearN nb ce bi) (shutN nb ce (ce bi)) (te % 60)))) (b := (ve bi)) dX10_layLines_81 ?_
      refine x_aload_n (pc := 82) dX10_layLines_82 rfl rfl ?_
      refine x_get (pc := 83) dX10_layLines_83 kf_RX10_98 hM.s rfl ?_
      rw [(h.keep fC).2.2.2.2.2.2.2.2.2.2.2.2.2.1]
      refine x_iaddn (pc := 86) (a := ((cm (mn 9 (sumO o 0 bi (hu bi) (nearN nb ce bi) (shutN nb ce (ce bi)) (te % 60))) (sumO o 1 bi (hu bi) (nearN nb ce bi) (shutN nb ce (ce bi)) (te % 60))) + (ve bi))) (b := lo) dX10_layLines_86 ?_
      refine x_put (pc := 87) dX10_layLines_87 kf_RX10_120 hM.s rfl (Or.inl kb_10_36) ?_
      refine x_aload_n (pc := 90) dX10_layLines_90 rfl rfl ?_
      refine x_iload_n (pc := 91) dX10_layLines_91 rfl rfl ?_
      refine x_aload_n (pc := 92) dX10_layLines_92 rfl rfl ?_
      refine x_get (pc := 93) dX10_layLines_93 kf_RX10_98 hM.s rfl ?_
      rw [up2_k (by decide), (h.keep fC).2.2.2.2.2.2.2.2.2.2.2.2.2.1]
      refine x_iaddn (pc := 96) (a := (mn 9 (sumO o 0 bi (hu bi) (nearN nb ce bi) (shutN nb ce (ce bi)) (te % 60)))) (b := lo) dX10_layLines_96 ?_
      refine x_put (pc := 97) dX10_layLines_97 kf_RX10_117 hM.s rfl (Or.inl kb_10_35) ?_
      refine x_return (pc := 100) dX10_layLines_100 rfl ⟨Nat.le_refl _, Nat.le_refl _⟩ ?_
      have h1 : isOne (ki bi) 2 = true := (isOne2 hk7).mpr (by omega)
      refine K _ (fC.tr ((mdFr.fld (by omega)).tr (mdFr.fld (by omega)))) ?_ ?_
      · rw [up2_s]
        unfold ylOf lnAt
        rw [lnO_eq]
        exact congrArg (fun z => nI (z + lo)) hmn
      · rw [up2_k (by decide), up2_s]
        unfold clOf lnAt
        rw [lnO_eq, h1]
        simp only [if_true, ↓reduceIte]
        try rw [← hmn]
    · skip
      refine x_iload_n (pc := 65) dX10_layLines_65 rfl rfl ?_
      refine x_bipush (pc := 66) (v := 6) dX10_layLines_66 (by decide) ?_
      refine x_icmpn_ne (pc := 68) (tgt := 80) (a := (ki bi)) (b := 6) dX10_layLines_68 (by decide) (by omega) (by decide) (fun c68 => ?_) (fun c68 => ?_)
      · skip
        refine x_iconst (pc := 80) (v := 0) dX10_layLines_80 (by decide) ?_
        refine x_iaddn (pc := 81) (a := (cm (mn 9 (sumO o 0 bi (hu bi) (nearN nb ce bi) (shutN nb ce (ce bi)) (te % 60))) (sumO o 1 bi (hu bi) (nearN nb ce bi) (shutN nb ce (ce bi)) (te % 60)))) (b := 0) dX10_layLines_81 ?_
        rw [Nat.add_zero]
        refine x_aload_n (pc := 82) dX10_layLines_82 rfl rfl ?_
        refine x_get (pc := 83) dX10_layLines_83 kf_RX10_98 hM.s rfl ?_
        rw [(h.keep fC).2.2.2.2.2.2.2.2.2.2.2.2.2.1]
        refine x_iaddn (pc := 86) (a := (cm (mn 9 (sumO o 0 bi (hu bi) (nearN nb ce bi) (shutN nb ce (ce bi)) (te % 60))) (sumO o 1 bi (hu bi) (nearN nb ce bi) (shutN nb ce (ce bi)) (te % 60)))) (b := lo) dX10_layLines_86 ?_
        refine x_put (pc := 87) dX10_layLines_87 kf_RX10_120 hM.s rfl (Or.inl kb_10_36) ?_
        refine x_aload_n (pc := 90) dX10_layLines_90 rfl rfl ?_
        refine x_iload_n (pc := 91) dX10_layLines_91 rfl rfl ?_
        refine x_aload_n (pc := 92) dX10_layLines_92 rfl rfl ?_
        refine x_get (pc := 93) dX10_layLines_93 kf_RX10_98 hM.s rfl ?_
        rw [up2_k (by decide), (h.keep fC).2.2.2.2.2.2.2.2.2.2.2.2.2.1]
        refine x_iaddn (pc := 96) (a := (mn 9 (sumO o 0 bi (hu bi) (nearN nb ce bi) (shutN nb ce (ce bi)) (te % 60)))) (b := lo) dX10_layLines_96 ?_
        refine x_put (pc := 97) dX10_layLines_97 kf_RX10_117 hM.s rfl (Or.inl kb_10_35) ?_
        refine x_return (pc := 100) dX10_layLines_100 rfl ⟨Nat.le_refl _, Nat.le_refl _⟩ ?_
        have h1 : isOne (ki bi) 2 = false := by cases hx : isOne (ki bi) 2 with
          | false => rfl
          | true => have := (isOne2 hk7).mp hx; omega
        refine K _ (fC.tr ((mdFr.fld (by omega)).tr (mdFr.fld (by omega)))) ?_ ?_
        · rw [up2_s]
          unfold ylOf lnAt
          rw [lnO_eq]
          exact congrArg (fun z => nI (z + lo)) hmn
        · rw [up2_k (by decide), up2_s]
          unfold clOf lnAt
          rw [lnO_eq, h1]
          simp only [Bool.false_eq_true, if_false, ↓reduceIte, Nat.add_zero]
          try rw [← hmn]
      · skip
        refine x_aload_n (pc := 71) dX10_layLines_71 rfl rfl ?_
        refine x_getr (pc := 72) dX10_layLines_72 kf_RX10_26 hM.s rfl hM.f1 ?_
        refine x_iload_n (pc := 75) dX10_layLines_75 rfl rfl ?_
        refine x_ialdn (pc := 76) (a := bi) dX10_layLines_76 hM.s1 (by omega) (by omega) ?_
        rw [(h.keep fC).2.2.2.2.1 bi hb]
        refine x_goto (pc := 77) (tgt := 81) dX10_layLines_77 (by decide) ?_
        refine x_iaddn (pc := 81) (a := (cm (mn 9 (sumO o 0 bi (hu bi) (nearN nb ce bi) (shutN nb ce (ce bi)) (te % 60))) (sumO o 1 bi (hu bi) (nearN nb ce bi) (shutN nb ce (ce bi)) (te % 60)))) (b := (ve bi)) dX10_layLines_81 ?_
        refine x_aload_n (pc := 82) dX10_layLines_82 rfl rfl ?_
        refine x_get (pc := 83) dX10_layLines_83 kf_RX10_98 hM.s rfl ?_
        rw [(h.keep fC).2.2.2.2.2.2.2.2.2.2.2.2.2.1]
        refine x_iaddn (pc := 86) (a := ((cm (mn 9 (sumO o 0 bi (hu bi) (nearN nb ce bi) (shutN nb ce (ce bi)) (te % 60))) (sumO o 1 bi (hu bi) (nearN nb ce bi) (shutN nb ce (ce bi)) (te % 60))) + (ve bi))) (b := lo) dX10_layLines_86 ?_
        refine x_put (pc := 87) dX10_layLines_87 kf_RX10_120 hM.s rfl (Or.inl kb_10_36) ?_
        refine x_aload_n (pc := 90) dX10_layLines_90 rfl rfl ?_
        refine x_iload_n (pc := 91) dX10_layLines_91 rfl rfl ?_
        refine x_aload_n (pc := 92) dX10_layLines_92 rfl rfl ?_
        refine x_get (pc := 93) dX10_layLines_93 kf_RX10_98 hM.s rfl ?_
        rw [up2_k (by decide), (h.keep fC).2.2.2.2.2.2.2.2.2.2.2.2.2.1]
        refine x_iaddn (pc := 96) (a := (mn 9 (sumO o 0 bi (hu bi) (nearN nb ce bi) (shutN nb ce (ce bi)) (te % 60)))) (b := lo) dX10_layLines_96 ?_
        refine x_put (pc := 97) dX10_layLines_97 kf_RX10_117 hM.s rfl (Or.inl kb_10_35) ?_
        refine x_return (pc := 100) dX10_layLines_100 rfl ⟨Nat.le_refl _, Nat.le_refl _⟩ ?_
        have h1 : isOne (ki bi) 2 = true := (isOne2 hk7).mpr (by omega)
        refine K _ (fC.tr ((mdFr.fld (by omega)).tr (mdFr.fld (by omega)))) ?_ ?_
        · rw [up2_s]
          unfold ylOf lnAt
          rw [lnO_eq]
          exact congrArg (fun z => nI (z + lo)) hmn
        · rw [up2_k (by decide), up2_s]
          unfold clOf lnAt
          rw [lnO_eq, h1]
          simp only [if_true, ↓reduceIte]
          try rw [← hmn]

