/-! ===== ring: the reference ===== -/
theorem evL_app2 {a1 a2 a3 a4 a5 : Nat} {k : List Int32} : ∀ {l : List Int32} {st : List Bool}, evL a1 a2 a3 a4 a5 (l ++ k) st = match evL a1 a2 a3 a4 a5 l st with
    | none => none
    | some st' => evL a1 a2 a3 a4 a5 k st'
  | [], st => rfl
  | t :: l, st => by
    show (match stM a1 a2 a3 a4 a5 t st with | none => none | some st1 => evL a1 a2 a3 a4 a5 (l ++ k) st1) = (match (match stM a1 a2 a3 a4 a5 t st with | none => none | some st1 => evL a1 a2 a3 a4 a5 l st1) with | none => none | some st' => evL a1 a2 a3 a4 a5 k st')
    cases e : stM a1 a2 a3 a4 a5 t st with
    | none => rfl
    | some st1 => exact evL_app2
theorem evM_evL {a1 a2 a3 a4 a5 : Nat} {sg : Nat → Int32} {fr : Nat} : ∀ (k : Nat) (l : List Int32), l.length = k → (∀ j y, l[j]? = some y → sg (fr + j) = y) → evM a1 a2 a3 a4 a5 sg fr k = evL a1 a2 a3 a4 a5 l []
  | 0, l, hl, _ => by
    rw [List.length_eq_zero_iff.mp hl]
    rfl
  | k + 1, l, hl, h => by
    have hne : l ≠ [] := fun z => by rw [z] at hl; cases hl
    have e := List.dropLast_concat_getLast hne
    have hd : l.dropLast.length = k := by rw [List.length_dropLast]; omega
    rw [← e] at h ⊢
    have h1 := evM_evL (a1 := a1) (a2 := a2) (a3 := a3) (a4 := a4) (a5 := a5) k l.dropLast hd (fun j y hj => h j y (by rw [List.getElem?_append_left (List.getElem?_eq_some_iff.mp hj).1]; exact hj))
    have h2 := h k (l.getLast hne) (by rw [List.getElem?_append_right (by omega), hd, Nat.sub_self]; rfl)
    rw [evL_app2]
    show (match evM a1 a2 a3 a4 a5 sg fr k with | none => none | some st => stM a1 a2 a3 a4 a5 (sg (fr + k)) st) = _
    rw [h1, h2]
    cases e2 : evL a1 a2 a3 a4 a5 l.dropLast [] with
    | none => rfl
    | some st1 =>
      show stM a1 a2 a3 a4 a5 (l.getLast hne) st1 = (match stM a1 a2 a3 a4 a5 (l.getLast hne) st1 with | none => none | some st' => evL a1 a2 a3 a4 a5 [] st')
      cases stM a1 a2 a3 a4 a5 (l.getLast hne) st1 with
      | none => rfl
      | some st' => rfl
theorem evM_c {a1 a2 a3 a4 a5 : Nat} {sg sg' : Nat → Int32} {fr : Nat} : ∀ k, (∀ i, i < k → sg' (fr + i) = sg (fr + i)) → evM a1 a2 a3 a4 a5 sg' fr k = evM a1 a2 a3 a4 a5 sg fr k
  | 0, _ => rfl
  | k + 1, h => by
    show (match evM a1 a2 a3 a4 a5 sg' fr k with | none => none | some st => stM a1 a2 a3 a4 a5 (sg' (fr + k)) st) = (match evM a1 a2 a3 a4 a5 sg fr k with | none => none | some st => stM a1 a2 a3 a4 a5 (sg (fr + k)) st)
    rw [evM_c k (fun i hi => h i (by omega)), h k (by omega)]
theorem md_new {J : xI} {M f : Nat} {acc : List xCL} {s : List Int32} (hf : f < 6) (hk : RNK acc) (h8 : J (M + 8) f = nI acc.length) (hc : MCL J M f s acc) (hs : SGS J M 0 s) (hl : s.length ≤ 600) : mdRing J M f (arOf acc) := by
  refine ⟨hf, hk.1, h8, fun c hcl => ?_⟩
  have hcl : c < acc.length := hcl
  have hx : acc[c]? = some acc[c] := List.getElem?_eq_getElem hcl
  have hd : acc.getD c dCL = acc[c] := by rw [List.getD_eq_getElem?_getD, hx]; rfl
  obtain ⟨k1, k2, k3⟩ := hk.2 _ (List.getElem_mem hcl)
  obtain ⟨m1, m2, m3⟩ := hc c _ hx
  show 2 - (acc.getD c dCL).1 ≤ 2 ∧ (acc.getD c dCL).2.1 < 100 ∧ J (M + 9) (8 * f + c) = nI (2 - (acc.getD c dCL).1) ∧ J (M + 10) (8 * f + c) = nI (acc.getD c dCL).2.1 ∧ (2 - (acc.getD c dCL).1 < 2 → ∃ fr kk, J (M + 11) (8 * f + c) = nI fr ∧ J (M + 12) (8 * f + c) = nI (fr + kk) ∧ fr + kk ≤ 600 ∧ ∀ a1 a2 a3 a4 a5, evM a1 a2 a3 a4 a5 (J (M + 13)) fr kk = some [(acc.getD c dCL).2.2.2.2 a1 a2 a3 a4 a5])
  rw [hd]
  refine ⟨by omega, k2, m1, m2, fun h2 => ?_⟩
  have hw : acc[c].1 ≠ 0 := by omega
  obtain ⟨fr, e1, e2, e3, e4⟩ := m3 hw
  refine ⟨fr, _, e2, e3, by omega, fun a1 a2 a3 a4 a5 => ?_⟩
  rw [evM_evL _ acc[c].2.2.2.1 rfl (fun j y hj => by
    have h9 := hs.2 _ _ (e4 j y hj)
    rw [Nat.zero_add] at h9
    exact h9)]
  exact (k3 hw).1 a1 a2 a3 a4 a5 [] (by have := (k3 hw).2.2; show 0 + _ ≤ 100; omega)
/-- where the rings' signs lie -/
def SGB (I : xI) (M rc : Nat) (ars : Nat → xAR) : Prop := ∀ j, j < rc → ∀ c, c < (ars j).1 → (ars j).2.1 c < 2 → ∃ fr kk, I (M + 11) (8 * j + c) = nI fr ∧ I (M + 12) (8 * j + c) = nI (fr + kk) ∧ fr + kk ≤ 100 * rc
theorem SGB.keep {I J : xI} {M rc : Nat} {ars : Nat → xAR} (h : SGB I M rc ars) (h1 : J (M + 11) = I (M + 11)) (h2 : J (M + 12) = I (M + 12)) : SGB J M rc ars := by
  unfold SGB
  rw [h1, h2]
  exact h
/-- frame of ring -/
def mdQ (M rc : Nat) (I J : xI) : Prop := (∀ a, (a < M ∨ (M < a ∧ a < M + 8) ∨ M + 14 < a) → J a = I a) ∧ (∀ k, k ≠ 10 → k ≠ 11 → k ≠ 12 → k ≠ 13 → k ≠ 14 → k ≠ 23 → k ≠ 24 → k ≠ 25 → J M k = I M k) ∧ (∀ a i, M + 9 ≤ a → a ≤ M + 12 → i < 8 * rc → J a i = I a i) ∧ (∀ i, i ≠ rc → J (M + 8) i = I (M + 8) i) ∧ ∀ i, i < 100 * rc → J (M + 13) i = I (M + 13) i
theorem mdRing.old {I J : xI} {M rc j : Nat} {ars : Nat → xAR} (h : mdRing I M j (ars j)) (hj : j < rc) (hb : SGB I M rc ars) (hrc : rc ≤ 6) (q : mdQ M rc I J) : mdRing J M j (ars j) := by
  obtain ⟨h1, h2, h3, h4⟩ := h
  obtain ⟨q1, q2, q3, q4, q5⟩ := q
  refine ⟨h1, h2, (q4 j (by omega)).trans h3, fun c hc => ?_⟩
  obtain ⟨g1, g2, g3, g4, g5⟩ := h4 c hc
  refine ⟨g1, g2, (q3 (M + 9) _ (by omega) (by omega) (by omega)).trans g3, (q3 (M + 10) _ (by omega) (by omega) (by omega)).trans g4, fun hw => ?_⟩
  obtain ⟨fr, kk, e1, e2, e3, e4⟩ := g5 hw
  obtain ⟨fr2, kk2, b1, b2, b3⟩ := hb j hj c hc hw
  rw [e2] at b2
  have b4 := congrArg Int32.toInt b2
  rw [nI_toInt (by omega), nI_toInt (by omega)] at b4
  refine ⟨fr, kk, (q3 (M + 11) _ (by omega) (by omega) (by omega)).trans e1, (q3 (M + 12) _ (by omega) (by omega) (by omega)).trans e2, e3, fun a1 a2 a3 a4 a5 => ?_⟩
  rw [evM_c kk (fun i hi => q5 (fr + i) (by omega))]
  exact e4 a1 a2 a3 a4 a5
theorem SGB.old {I J : xI} {M rc : Nat} {ars : Nat → xAR} (hb : SGB I M rc ars) (h8 : ∀ j, j < rc → (ars j).1 ≤ 8) (q : mdQ M rc I J) : SGB J M rc ars := fun j hj c hc hw => by
  obtain ⟨fr, kk, b1, b2, b3⟩ := hb j hj c hc hw
  have := h8 j hj
  exact ⟨fr, kk, (q.2.2.1 (M + 11) _ (by omega) (by omega) (by omega)).trans b1, (q.2.2.1 (M + 12) _ (by omega) (by omega) (by omega)).trans b2, b3⟩
/-- one ring more -/
def arsN (ars : Nat → xAR) (rc : Nat) (ar : xAR) : Nat → xAR := fun j => if j = rc then ar else ars j
theorem arsN_o {ars : Nat → xAR} {rc j : Nat} {ar : xAR} (h : j ≠ rc) : arsN ars rc ar j = ars j := if_neg h
theorem arsN_n {ars : Nat → xAR} {rc : Nat} {ar : xAR} : arsN ars rc ar rc = ar := if_pos rfl
theorem mRings.q {I J : xI} {M rc : Nat} {ars : Nat → xAR} (h : mRings I M rc ars) (hb : SGB I M rc ars) (q : mdQ M rc I J) (e : J M 10 = I M 10) : mRings J M rc ars := ⟨h.1, e.trans h.2.1, fun j hj => (h.2.2 j hj).old hj hb h.1 q⟩
theorem mRings.new {I J : xI} {M rc : Nat} {ars : Nat → xAR} {ar : xAR} (h : mRings I M rc ars) (hb : SGB I M rc ars) (q : mdQ M rc I J) (h6 : rc < 6) (e : J M 10 = nI (rc + 1)) (hn : mdRing J M rc ar) : mRings J M (rc + 1) (arsN ars rc ar) := ⟨by omega, e, fun j hj => by
  by_cases z : j = rc
  · subst z
    rw [arsN_n]
    exact hn
  · rw [arsN_o z]
    exact (h.2.2 j (by omega)).old (by omega) hb h.1 q⟩
theorem SGB.new {I J : xI} {M rc : Nat} {ars : Nat → xAR} {acc : List xCL} {s : List Int32} (h : mRings I M rc ars) (hb : SGB I M rc ars) (q : mdQ M rc I J) (hc : MCL J M rc s acc) (hl : s.length ≤ 100 * (rc + 1)) : SGB J M (rc + 1) (arsN ars rc (arOf acc)) := fun j hj => by
  by_cases z : j = rc
  · subst z
    rw [arsN_n]
    intro c hcl hw
    have hcl : c < acc.length := hcl
    have hx : acc[c]? = some acc[c] := List.getElem?_eq_getElem hcl
    have hd : acc.getD c dCL = acc[c] := by rw [List.getD_eq_getElem?_getD, hx]; rfl
    have hw : 2 - (acc.getD c dCL).1 < 2 := hw
    rw [hd] at hw
    obtain ⟨fr, e1, e2, e3, e4⟩ := (hc c _ hx).2.2 (by omega)
    exact ⟨fr, _, e2, e3, by omega⟩
  · rw [arsN_o z]
    intro c hcl hw
    obtain ⟨fr, kk, b1, b2, b3⟩ := hb.old (fun j hj => (h.2.2 j hj).2.1) q j (by omega) c hcl hw
    exact ⟨fr, kk, b1, b2, by omega⟩
theorem mdG.q {M rc : Nat} {I J : xI} {s0 s1 : List Int32} (g : mdG M rc I J) (h0 : s0.length = 100 * rc) (hi : ∀ i, i < 100 * rc → s0[i]? = some (I (M + 13) i)) (hs : SGS J M 0 (s0 ++ s1)) : mdQ M rc I J := ⟨g.1, fun k _ _ _ p q r s t => g.2.1 k p q r s t, g.2.2.1, g.2.2.2, fun i hi2 => by
  have h9 := hs.2 i (I (M + 13) i) (by rw [List.getElem?_append_left (by omega)]; exact hi i hi2)
  rw [Nat.zero_add] at h9
  exact h9⟩
theorem mdQ.fld {M rc k : Nat} {x : Int32} {I J : xI} (h : mdQ M rc I J) (hk : k = 10 ∨ k = 11 ∨ k = 12) : mdQ M rc I (up2 J M k x) := ⟨fun a p => (up2_row (by omega)).trans (h.1 a p), fun j p q r s t u v w => (up2_k (by omega)).trans (h.2.1 j p q r s t u v w), fun a i p q r => (congrFun (up2_row (by omega)) i).trans (h.2.2.1 a i p q r), fun i p => (congrFun (up2_row (by omega)) i).trans (h.2.2.2.1 i p), fun i p => (congrFun (up2_row (by omega)) i).trans (h.2.2.2.2 i p)⟩

set_option maxHeartbeats 4000000 in
set_option maxRecDepth 100000 in
theorem m_ringIt {T : xT} {n : Nat} {sh : Nat → Nat × Nat} {I : xI} {R : xR} {L : xL} {P : xPost} {M : Nat} (hM : xModel sh R M) {t : xX} (hx : XOK t) (ht : mTxt I M t) (hl : LWD I M) {rc : Nat} (hrc : I M 10 = nI rc) (hrc6 : rc ≤ 6) {r : xCQ (List xCL)} (hr : rc < 6 → RLN (nxX t) t.1 8 0 [] r) (K6 : rc = 6 → P (n, sh, 0, 0) I R L (some (.int (-4)))) (K0 : ∀ (q : Nat) (J : xI), rc < 6 → r = (q, none) → q ≤ t.1 → J M 12 = 0 → J M 10 = I M 10 → J M 11 = I M 11 → mdQ M rc I J → P (n, sh, 0, 0) J R L (some (.int (-10 - nI q)))) (K1 : ∀ (acc : List xCL) (s : List Int32) (J : xI), rc < 6 → r = (t.1, some acc) → RNK acc → J M 12 = 0 → J M 10 = nI (rc + 1) → J M 11 = nI rc → mdRing J M rc (arOf acc) → MCL J M rc s acc → s.length ≤ 100 * (rc + 1) → mdQ M rc I J → P (n, sh, 0, 0) J R L (some (.int (nI rc))))  : XM T zX10_ring 7 [.ref M] n sh I R L P := by
  have x100 := hx.1
  refine x_aload_n (pc := 0) dX10_ring_0 rfl rfl ?_
  refine x_get (pc := 1) dX10_ring_1 kf_RX10_41 hM.s rfl ?_
  rw [hrc]
  refine x_bipush (pc := 4) (v := 6) dX10_ring_4 (by decide) ?_
  refine x_icmpn_ne (pc := 6) (tgt := 12) (a := rc) (b := 6) dX10_ring_6 (by decide) (by omega) (by decide) (fun c6 => ?_) (fun c6 => ?_)
  · skip
    have h6 : rc < 6 := by omega
    have l0 : ((List.range (100 * rc)).map (fun i => I (M + 13) i)).length = 100 * rc := by rw [List.length_map, List.length_range]
    have li : ∀ i, i < 100 * rc → ((List.range (100 * rc)).map (fun i => I (M + 13) i))[i]? = some (I (M + 13) i) := fun i hi => by
      rw [List.getElem?_map, List.getElem?_range hi]
      rfl
    refine x_aload_n (pc := 12) dX10_ring_12 rfl rfl ?_
    refine x_aload_n (pc := 13) dX10_ring_13 rfl rfl ?_
    refine x_get (pc := 14) dX10_ring_14 kf_RX10_41 hM.s rfl ?_
    rw [hrc]
    refine x_callV (pc := 17) (As := [.int _]) dX10_ring_17 km_X10_goesText kv_X10_goesText kl_RX10_292 hM.s rfl rfl (by decide) ⟨Nat.le_refl _, Nat.le_refl _⟩ rfl (Nat.le_of_ble_eq_true rfl) (Nat.le_of_ble_eq_true rfl) (m_goesText (s0 := ((List.range (100 * rc)).map (fun i => I (M + 13) i))) hM hx ht hl h6 l0 (fun i x hi => by
        have hlt := (List.getElem?_eq_some_iff.mp hi).1
        rw [l0] at hlt
        rw [li i hlt] at hi
        exact Option.some.inj hi) (hr h6) (fun acc s1 J e1 h2 h3 h4 h5 h7 f1 => ⟨rfl, rfl, ?_⟩) (fun q s1 J e1 hq9 h2 h3 f1 => ⟨rfl, rfl, ?_⟩))
    · skip
      have hq := f1.q l0 li h3
      refine x_istore_n (pc := 20) (lv' := [(0, .ref M), (1, .int 1)]) dX10_ring_20 rfl (by decide) rfl ?_
      refine x_aload_n (pc := 21) dX10_ring_21 rfl rfl ?_
      refine x_iconst (pc := 22) (v := 0) dX10_ring_22 (by decide) ?_
      refine x_put (pc := 23) dX10_ring_23 kf_RX10_47 hM.s rfl (Or.inl kb_10_12) ?_
      refine x_iload_n (pc := 26) dX10_ring_26 rfl rfl ?_
      refine x_if_ne_t (pc := 27) (tgt := 38) dX10_ring_27 (by decide) (by decide) ?_
      refine x_aload_n (pc := 38) dX10_ring_38 rfl rfl ?_
      refine x_aload_n (pc := 39) dX10_ring_39 rfl rfl ?_
      refine x_get (pc := 40) dX10_ring_40 kf_RX10_41 hM.s rfl ?_
      rw [show up2 J M 12 0 M 10 = nI rc from (up2_k (by decide)).trans ((f1.2.1 10 (by decide) (by decide) (by decide) (by decide) (by decide)).trans hrc)]
      refine x_put (pc := 43) dX10_ring_43 kf_RX10_44 hM.s rfl (Or.inl kb_10_11) ?_
      refine x_aload_n (pc := 46) dX10_ring_46 rfl rfl ?_
      refine x_dup (pc := 47) dX10_ring_47 rfl ?_
      refine x_get (pc := 48) dX10_ring_48 kf_RX10_41 hM.s rfl ?_
      rw [show up2 (up2 J M 12 0) M 11 (nI rc) M 10 = nI rc from (up2_k (by decide)).trans ((up2_k (by decide)).trans ((f1.2.1 10 (by decide) (by decide) (by decide) (by decide) (by decide)).trans hrc))]
      refine x_iconst (pc := 51) (v := 1) dX10_ring_51 (by decide) ?_
      refine x_iaddn (pc := 52) (a := rc) (b := 1) dX10_ring_52 ?_
      refine x_put (pc := 53) dX10_ring_53 kf_RX10_41 hM.s rfl (Or.inl kb_10_10) ?_
      refine x_aload_n (pc := 56) dX10_ring_56 rfl rfl ?_
      refine x_get (pc := 57) dX10_ring_57 kf_RX10_44 hM.s rfl ?_
      rw [show up2 (up2 (up2 J M 12 0) M 11 (nI rc)) M 10 (nI (rc + 1)) M 11 = nI rc from (up2_k (by decide)).trans up2_s]
      refine x_ireturn (pc := 60) dX10_ring_60 ⟨_, rfl, rfl⟩ ⟨Nat.le_refl _, Nat.le_refl _⟩ ?_
      have hrr := hr h6
      rw [e1] at hrr
      have hk := rln_k hx 8 0 [] (by decide) (fun x hx => by cases hx) hrr
      have hJ : ∀ a, a ≠ M → up2 (up2 (up2 J M 12 0) M 11 (nI rc)) M 10 (nI (rc + 1)) a = J a := fun a p => (up2_row p).trans ((up2_row p).trans (up2_row p))
      have hc9 : MCL (up2 (up2 (up2 J M 12 0) M 11 (nI rc)) M 10 (nI (rc + 1))) M rc (((List.range (100 * rc)).map (fun i => I (M + 13) i)) ++ s1) acc := h5.keep (fun a p1 p2 => hJ a (by omega))
      have hs9 : SGS (up2 (up2 (up2 J M 12 0) M 11 (nI rc)) M 10 (nI (rc + 1))) M 0 (((List.range (100 * rc)).map (fun i => I (M + 13) i)) ++ s1) := h3.keep ((up2_k (by decide)).trans ((up2_k (by decide)).trans (up2_k (by decide)))) (hJ _ (by omega))
      exact K1 acc _ _ h6 e1 hk ((up2_k (by decide)).trans ((up2_k (by decide)).trans up2_s)) up2_s ((up2_k (by decide)).trans up2_s) (md_new h6 hk ((congrFun (hJ _ (by omega)) rc).trans h7) hc9 hs9 (by omega)) hc9 (by omega) (((hq.fld (by decide)).fld (by decide)).fld (by decide))
    · skip
      have hq := f1.q l0 li h3
      refine x_istore_n (pc := 20) (lv' := [(0, .ref M), (1, .int 0)]) dX10_ring_20 rfl (by decide) rfl ?_
      refine x_aload_n (pc := 21) dX10_ring_21 rfl rfl ?_
      refine x_iconst (pc := 22) (v := 0) dX10_ring_22 (by decide) ?_
      refine x_put (pc := 23) dX10_ring_23 kf_RX10_47 hM.s rfl (Or.inl kb_10_12) ?_
      refine x_iload_n (pc := 26) dX10_ring_26 rfl rfl ?_
      refine x_if_ne_f (pc := 27) (tgt := 38) dX10_ring_27 (by decide) (by decide) ?_
      refine x_bipush (pc := 30) (v := -10) dX10_ring_30 (by decide) ?_
      refine x_aload_n (pc := 32) dX10_ring_32 rfl rfl ?_
      refine x_get (pc := 33) dX10_ring_33 kf_RX10_50 hM.s rfl ?_
      rw [show up2 J M 12 0 M 13 = nI q from (up2_k (by decide)).trans h2]
      refine x_isub (pc := 36) dX10_ring_36 ?_
      refine x_ireturn (pc := 37) dX10_ring_37 ⟨_, rfl, rfl⟩ ⟨Nat.le_refl _, Nat.le_refl _⟩ ?_
      exact K0 q _ h6 e1 hq9 up2_s ((up2_k (by decide)).trans (f1.2.1 10 (by decide) (by decide) (by decide) (by decide) (by decide))) ((up2_k (by decide)).trans (f1.2.1 11 (by decide) (by decide) (by decide) (by decide) (by decide))) (hq.fld (by decide))
  · skip
    refine x_bipush (pc := 9) (v := -4) dX10_ring_9 (by decide) ?_
    refine x_ireturn (pc := 11) dX10_ring_11 ⟨_, rfl, rfl⟩ ⟨Nat.le_refl _, Nat.le_refl _⟩ ?_
    exact K6 (by omega)

