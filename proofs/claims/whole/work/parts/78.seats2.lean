/-! ===== seats: the class, its methods (two rows pasted from the kit's texts for pasting) ===== -/
theorem fb_holes : ∀ (m n : Nat) (f : Nat → Nat), (∀ i, i < n → f i < m) → (∀ i j, i < j → j < n → f i ≠ f j) → n ≤ m := by
  intro m
  induction m with
  | zero =>
    intro n f h1 _
    rcases Nat.eq_zero_or_pos n with h | h
    · omega
    · exact absurd (h1 0 h) (Nat.not_lt_zero _)
  | succ m ih =>
    intro n f h1 h2
    by_cases hx : ∃ i, i < n ∧ f i = m
    · obtain ⟨a, ha, hfa⟩ := hx
      have hg := ih (n - 1) (fun i => if i < a then f i else f (i + 1)) (by
        intro i hi
        by_cases q : i < a
        · simp only [if_pos q]
          have b1 := h1 i (by omega)
          have b2 := h2 i a q ha
          omega
        · simp only [if_neg q]
          have b1 := h1 (i + 1) (by omega)
          have b2 := h2 a (i + 1) (by omega) (by omega)
          omega) (by
        intro i j hij hj
        by_cases q : i < a
        · by_cases r : j < a
          · simp only [if_pos q, if_pos r]
            exact h2 i j hij (by omega)
          · simp only [if_pos q, if_neg r]
            exact h2 i (j + 1) (by omega) (by omega)
        · have r : ¬ j < a := by omega
          simp only [if_neg q, if_neg r]
          exact h2 (i + 1) (j + 1) (by omega) (by omega))
      omega
    · have hg := ih n f (fun i hi => by
        have b1 := h1 i hi
        have b2 : f i ≠ m := fun e => hx ⟨i, hi, e⟩
        omega) h2
      omega
theorem fb_onto {n : Nat} {f : Nat → Nat} (h : ∀ i, i < n → f i < n) (h2 : ∀ i j, i < j → j < n → f i ≠ f j) {y : Nat} (hy : y < n) : ∃ i, i < n ∧ f i = y := by
  refine Classical.byContradiction fun hx => ?_
  have hne : ∀ i, i < n → f i ≠ y := fun i hi e => hx ⟨i, hi, e⟩
  have := fb_holes (n - 1) n (fun i => if f i < y then f i else f i - 1) (by
    intro i hi
    have b1 := h i hi
    have b2 := hne i hi
    by_cases q : f i < y
    · simp only [if_pos q]; omega
    · simp only [if_neg q]; omega) (by
    intro i j hij hj
    have b1 := hne i (by omega)
    have b2 := hne j hj
    have b3 := h2 i j hij hj
    by_cases q : f i < y
    · by_cases r : f j < y
      · simp only [if_pos q, if_pos r]; exact b3
      · simp only [if_pos q, if_neg r]; omega
    · by_cases r : f j < y
      · simp only [if_neg q, if_pos r]; omega
      · simp only [if_neg q, if_neg r]; omega)
  omega

theorem fstI_is {V : xV} {B c i : Nat} (hv : VOK V B) (hi : i < V 8 0) (h : V 3 i = c) : fstI (V 3) c (V 8 0) = i := by
  obtain ⟨v6, v12, v10, vb, vf, vw, vm, vta, vte, vod, vrg, vdi⟩ := hv
  exact fstI_of h (fun j hj e => by have := vdi j i (by omega) hi (e.trans h.symm); omega) (V 8 0) hi
/-- stools in a rising row are no more than beasts -/
theorem LS_le {V : xV} {B m : Nat} {l : Nat → Nat} (hv : VOK V B) (h : ∀ k, k < m → ∃ i, i < V 8 0 ∧ V 3 i = l k) (hr : ∀ j k, j < k → k < m → l j < l k) : m ≤ V 8 0 := by
  refine fb_holes (V 8 0) m (fun k => fstI (V 3) (l k) (V 8 0)) (fun k hk => ?_) (fun j k hjk hk e => ?_)
  · obtain ⟨i, hi, e⟩ := h k hk
    show fstI (V 3) (l k) (V 8 0) < V 8 0
    rw [fstI_is hv hi e]
    exact hi
  · obtain ⟨i, hi, e1⟩ := h j (by omega)
    obtain ⟨i2, hi2, e2⟩ := h k hk
    have e : fstI (V 3) (l j) (V 8 0) = fstI (V 3) (l k) (V 8 0) := e
    rw [fstI_is hv hi e1, fstI_is hv hi2 e2] at e
    rw [e] at e1
    have := hr j k hjk hk
    omega
theorem SKIP {V : xV} {B b m k : Nat} {ch l : Nat → Nat} {acc : xB} (hv : VOK V B) (hl : LSO V l m) (hk : k < m) (hb : b < V 8 0) (hp : PVL V ch b) (h : BST V (SPr ch b (bnd l m k)) acc) (hno : ∀ t, PVL V t (V 8 0) → (∀ j, j < b → t j = ch j) → ¬ t b = l k) : BST V (SPr ch b (bnd l m (k + 1))) acc := by
  refine h.congr (fun t ht => ?_)
  rw [SPr_k hv hl hk hb ht]
  constructor
  · exact Or.inl
  · rintro (q | ⟨q1, q2⟩)
    · exact q
    · refine absurd q2 (hno t ht (vl_inj b (fun j hj => ⟨?_, ?_⟩) q1))
      · have := PVL.lt hv ht j (by omega)
        omega
      · have := PVL.lt hv hp j hj
        omega
theorem PVL.chP {V : xV} {b k m : Nat} {ch l : Nat → Nat} (hl : LSO V l m) (hk : k < m) (hp : PVL V ch b) (h1 : ∀ j, j < b → ¬ ch j = l k) (h2 : ∀ i, i < b → bget (V 5 b) i = 1 → ¬ rnd (ch i) (l k) = 1) : PVL V (chP ch b (l k)) (b + 1) := by
  refine ⟨fun j hj => ?_, fun a j haj hj => ?_, fun a j haj hj => ?_⟩
  · rcases Nat.lt_succ_iff_lt_or_eq.mp hj with z | z
    · rw [chP_lo z]; exact hp.1 j z
    · rw [z, chP_b]; exact hl.1 k hk
  · rcases Nat.lt_succ_iff_lt_or_eq.mp hj with z | z
    · rw [chP_lo z, chP_lo (by omega)]; exact hp.2.1 a j haj z
    · rw [z, chP_b, chP_lo (by omega)]; exact h1 a (by omega)
  · rcases Nat.lt_succ_iff_lt_or_eq.mp hj with z | z
    · rw [chP_lo z, chP_lo (by omega)]; exact hp.2.2 a j haj z
    · rw [z, chP_b, chP_lo (by omega)]; exact h2 a (by omega)
theorem LSO.inj {V : xV} {l : Nat → Nat} {m j k : Nat} (h : LSO V l m) (hj : j < m) (hk : k < m) (e : l j = l k) : j = k := by
  rcases Nat.lt_trichotomy j k with z | z | z
  · have := h.2.2 j k z hk
    omega
  · exact z
  · have := h.2.2 k j z hj
    omega
theorem LSO.lt {V : xV} {l : Nat → Nat} {m k B : Nat} (hv : VOK V B) (h : LSO V l m) (hk : k < m) : l k < 36 := by
  obtain ⟨i, hi, e⟩ := h.1 k hk
  obtain ⟨v6, v12, v10, vb, _⟩ := hv
  rw [← e]
  exact (vb i hi).2.2.2.1

set_option maxHeartbeats 4000000 in
set_option maxRecDepth 100000 in
theorem l_isByEnemy {T : xT} {n : Nat} {sh : Nat → Nat × Nat} {I : xI} {R : xR} {L : xL} {P : xPost} {lr nw im tr rd hu se ac M : Nat} (hG : GEO sh R lr nw im tr rd hu se ac M) {V : xV} {B : Nat} (h : FSC I nw V) (hv : VOK V B) {ch : Nat → Nat} {bi c mm : Nat} (hb : bi < V 8 0) (hc : c < 36) (hch : ∀ j, j < bi → ch j < 36) (hm : bi ≤ mm ∧ mm ≤ 6 ∧ I (se + 3) 1 = nI mm) (hrow : ∀ j, j < bi → I (se + 4) j = nI (ch j)) (K1 : (∃ i, i < bi ∧ bget (V 5 bi) i = 1 ∧ rnd (ch i) c = 1) → P (n, sh, 0, 0) I R L (some (.int 1))) (K2 : (∀ i, i < bi → bget (V 5 bi) i = 1 → ¬ rnd (ch i) c = 1) → P (n, sh, 0, 0) I R L (some (.int 0)))  : ∀ (w i : Nat), i + w = bi → (∀ j, j < i → bget (V 5 bi) j = 1 → ¬ rnd (ch j) c = 1) → X T zX7_isByEnemy 2 0 0 P 3 [(0, .ref se), (1, .ref nw), (2, .int (nI bi)), (3, .int (nI c)), (4, .int (nI i))] [] (n, sh, 0, 0) (I) R L := by
  obtain ⟨v6, v12, v10, vb, vf, vw, vm, vta, vte, vod, vrg, vdi⟩ := id hv
  intro w
  induction w with
  | zero =>
    intro i hw hno
    have hz : i = bi := by omega
    refine x_iload (pc := 3) dX7_isByEnemy_3 rfl ?_
    refine x_iload_n (pc := 5) dX7_isByEnemy_5 rfl rfl ?_
    refine x_icmpn_ge_t (pc := 6) (tgt := 44) (a := i) (b := bi) dX7_isByEnemy_6 (by decide) (by omega) (by omega) (by omega) ?_
    refine x_iconst (pc := 44) (v := 0) dX7_isByEnemy_44 (by decide) ?_
    refine x_ireturn (pc := 45) dX7_isByEnemy_45 ⟨_, rfl, by decide⟩ ⟨Nat.le_refl _, Nat.le_refl _⟩ ?_
    exact K2 (fun j hj => hno j (by omega))
  | succ w ih =>
    intro i hw hno
    have hi : i < bi := by omega
    refine x_iload (pc := 3) dX7_isByEnemy_3 rfl ?_
    refine x_iload_n (pc := 5) dX7_isByEnemy_5 rfl rfl ?_
    refine x_icmpn_ge_f (pc := 6) (tgt := 44) (a := i) (b := bi) dX7_isByEnemy_6 (by decide) (by omega) (by omega) (by omega) ?_
    refine x_aload_n (pc := 9) dX7_isByEnemy_9 rfl rfl ?_
    refine x_iload_n (pc := 10) dX7_isByEnemy_10 rfl rfl ?_
    refine x_iload (pc := 11) dX7_isByEnemy_11 rfl ?_
    refine x_callV (pc := 13) (As := [.int _, .int _]) dX7_isByEnemy_13 km_X6_areEnemies kv_X6_areEnemies kl_RX7_70 hG.g_nw.1 rfl rfl (by decide) ⟨Nat.le_refl _, Nat.le_refl _⟩ rfl (Nat.le_of_ble_eq_true rfl) (Nat.le_of_ble_eq_true rfl) (c_areEnemies (ai := bi) hG.g_nw (h.row 5 (by decide)) v6 hb (by omega) (pw6 (vf bi hb) v6) (fun he => ⟨rfl, rfl, ?_⟩) (fun he => ⟨rfl, rfl, ?_⟩))
    · skip
      refine x_if_eq_f (pc := 16) (tgt := 38) dX7_isByEnemy_16 (by decide) (by decide) ?_
      refine x_aload_n (pc := 19) dX7_isByEnemy_19 rfl rfl ?_
      refine x_getr (pc := 20) dX7_isByEnemy_20 kf_RX7_20 hG.g_se rfl hG.g_se1 ?_
      refine x_iload (pc := 23) dX7_isByEnemy_23 rfl ?_
      refine x_callV (pc := 25) (As := [.int _]) dX7_isByEnemy_25 km_X5_at kv_X5_at kl_RX7_55 hG.g_chosen.1 rfl rfl (by decide) ⟨Nat.le_refl _, Nat.le_refl _⟩ rfl (Nat.le_of_ble_eq_true rfl) (Nat.le_of_ble_eq_true rfl) (c_at hG.g_chosen (⟨rfl, rfl, ?_⟩))
      rw [hm.2.2, rAt_in (m := mm) (by omega) hm.2.1 (by decide), hrow i hi]
      have hci := hch i hi
      refine x_iload_n (pc := 28) dX7_isByEnemy_28 rfl rfl ?_
      refine x_callSN (pc := 29) (As := [.int _, .int _]) dX7_isByEnemy_29 km_X9_roundOf ks_X9_roundOf kn_RX7_66 rfl (by decide) ⟨Nat.le_refl _, Nat.le_refl _⟩ rfl (Nat.le_of_ble_eq_true rfl) (Nat.le_of_ble_eq_true rfl) (c_roundOf hci hc (⟨rfl, rfl, ?_⟩))
      have hrn := rnd_lt hci hc
      refine x_iconst (pc := 32) (v := 1) dX7_isByEnemy_32 (by decide) ?_
      refine x_icmpn_ne (pc := 33) (tgt := 38) (a := (rnd (ch i) c)) (b := 1) dX7_isByEnemy_33 (by decide) (by omega) (by decide) (fun c33 => ?_) (fun c33 => ?_)
      · skip
        refine x_iinc (pc := 38) (v := nI (i + 1)) (lv' := [(0, .ref se), (1, .ref nw), (2, .int (nI bi)), (3, .int (nI c)), (4, .int (nI (i + 1)))]) dX7_isByEnemy_38 rfl (nI_1 _) (by decide) rfl ?_
        refine x_goto (pc := 41) (tgt := 3) dX7_isByEnemy_41 (by decide) ?_
        exact ih (i + 1) (by omega) (fun j hj q => (Nat.lt_succ_iff_lt_or_eq.mp hj).elim (fun z => hno j z q) (fun z => by subst z; first | exact c33 | omega))
      · skip
        refine x_iconst (pc := 36) (v := 1) dX7_isByEnemy_36 (by decide) ?_
        refine x_ireturn (pc := 37) dX7_isByEnemy_37 ⟨_, rfl, by decide⟩ ⟨Nat.le_refl _, Nat.le_refl _⟩ ?_
        exact K1 ⟨i, hi, he, c33⟩
    · skip
      refine x_if_eq_t (pc := 16) (tgt := 38) dX7_isByEnemy_16 (by decide) (by decide) ?_
      refine x_iinc (pc := 38) (v := nI (i + 1)) (lv' := [(0, .ref se), (1, .ref nw), (2, .int (nI bi)), (3, .int (nI c)), (4, .int (nI (i + 1)))]) dX7_isByEnemy_38 rfl (nI_1 _) (by decide) rfl ?_
      refine x_goto (pc := 41) (tgt := 3) dX7_isByEnemy_41 (by decide) ?_
      exact ih (i + 1) (by omega) (fun j hj q => (Nat.lt_succ_iff_lt_or_eq.mp hj).elim (fun z => hno j z q) (fun z => by subst z; first | exact c33 | omega))

set_option maxHeartbeats 4000000 in
set_option maxRecDepth 100000 in
theorem c_isByEnemy {T : xT} {n : Nat} {sh : Nat → Nat × Nat} {I : xI} {R : xR} {L : xL} {P : xPost} {lr nw im tr rd hu se ac M : Nat} (hG : GEO sh R lr nw im tr rd hu se ac M) {V : xV} {B : Nat} (h : FSC I nw V) (hv : VOK V B) {ch : Nat → Nat} {bi c mm : Nat} (hb : bi < V 8 0) (hc : c < 36) (hch : ∀ j, j < bi → ch j < 36) (hm : bi ≤ mm ∧ mm ≤ 6 ∧ I (se + 3) 1 = nI mm) (hrow : ∀ j, j < bi → I (se + 4) j = nI (ch j)) (K1 : (∃ i, i < bi ∧ bget (V 5 bi) i = 1 ∧ rnd (ch i) c = 1) → P (n, sh, 0, 0) I R L (some (.int 1))) (K2 : (∀ i, i < bi → bget (V 5 bi) i = 1 → ¬ rnd (ch i) c = 1) → P (n, sh, 0, 0) I R L (some (.int 0)))  : XM T zX7_isByEnemy 2 [.ref se, .ref nw, .int (nI bi), .int (nI c)] n sh I R L P := by
  refine x_iconst (pc := 0) (v := 0) dX7_isByEnemy_0 (by decide) ?_
  refine x_istore (pc := 1) (lv' := [(0, .ref se), (1, .ref nw), (2, .int (nI bi)), (3, .int (nI c)), (4, .int 0)]) dX7_isByEnemy_1 (by decide) rfl ?_
  exact l_isByEnemy hG h hv hb hc hch hm hrow K1 K2 bi 0 (by omega) (fun j hj => absurd hj (by omega))

set_option maxHeartbeats 4000000 in
set_option maxRecDepth 100000 in
theorem c_seKeep0 {T : xT} {n : Nat} {sh : Nat → Nat × Nat} {I : xI} {R : xR} {L : xL} {P : xPost} {lr nw im tr rd hu se ac M : Nat} (hG : GEO sh R lr nw im tr rd hu se ac M) {nb s : Nat} {ch : Nat → Nat} (hn6 : nb ≤ 6) (hss : s < 1000) (hs : I se 3 = -5) (hc : I (se + 3) 1 = nI nb) (K1 : P (n, sh, 0, 0) (xcopy (up2 I se 3 (nI s)) (se + 5) (se + 6) (se + 4) nb) R L none)  : XM T zX7_keep 2 [.ref se, .int (nI s)] n sh I R L P := by
  refine x_aload_n (pc := 0) dX7_keep_0 rfl rfl ?_
  refine x_get (pc := 1) dX7_keep_1 kf_RX7_26 hG.g_se rfl ?_
  rw [hs]
  refine x_bipush (pc := 4) (v := -5) dX7_keep_4 (by decide) ?_
  refine x_icmp_eq_t (pc := 6) (tgt := 17) dX7_keep_6 (by decide) (by decide) ?_
  refine x_aload_n (pc := 17) dX7_keep_17 rfl rfl ?_
  refine x_iload_n (pc := 18) dX7_keep_18 rfl rfl ?_
  refine x_put (pc := 19) dX7_keep_19 kf_RX7_26 hG.g_se rfl (Or.inl kb_7_3) ?_
  refine x_aload_n (pc := 22) dX7_keep_22 rfl rfl ?_
  refine x_getr (pc := 23) dX7_keep_23 kf_RX7_23 hG.g_se rfl hG.g_se2 ?_
  refine x_aload_n (pc := 26) dX7_keep_26 rfl rfl ?_
  refine x_getr (pc := 27) dX7_keep_27 kf_RX7_20 hG.g_se rfl hG.g_se1 ?_
  refine x_callV (pc := 30) (As := [.ref _]) dX7_keep_30 km_X5_copyFrom kv_X5_copyFrom kl_RX7_74 hG.g_best.1 rfl rfl (by decide) ⟨Nat.le_refl _, Nat.le_refl _⟩ rfl (Nat.le_of_ble_eq_true rfl) (Nat.le_of_ble_eq_true rfl) (c_copyFrom hG.g_best hG.g_chosen (by omega) (by omega) ((congrFun (up2_row (by omega)) 1).trans hc) hn6 hn6 (⟨rfl, rfl, ?_⟩))
  refine x_return (pc := 33) dX7_keep_33 rfl ⟨Nat.le_refl _, Nat.le_refl _⟩ ?_
  exact K1

set_option maxHeartbeats 4000000 in
set_option maxRecDepth 100000 in
theorem c_seKeep1 {T : xT} {n : Nat} {sh : Nat → Nat × Nat} {I : xI} {R : xR} {L : xL} {P : xPost} {lr nw im tr rd hu se ac M : Nat} (hG : GEO sh R lr nw im tr rd hu se ac M) {r0 : Nat} {nb s : Nat} {ch : Nat → Nat} (hn6 : nb ≤ 6) (hss : s < 1000) (hs : I se 3 = nI r0) (hlt : r0 < 1000) (hc : I (se + 3) 1 = nI nb) (K1 : s < r0 → P (n, sh, 0, 0) (xcopy (up2 I se 3 (nI s)) (se + 5) (se + 6) (se + 4) nb) R L none) (K2 : r0 ≤ s → P (n, sh, 0, 0) I R L none)  : XM T zX7_keep 2 [.ref se, .int (nI s)] n sh I R L P := by
  refine x_aload_n (pc := 0) dX7_keep_0 rfl rfl ?_
  refine x_get (pc := 1) dX7_keep_1 kf_RX7_26 hG.g_se rfl ?_
  rw [hs]
  refine x_bipush (pc := 4) (v := -5) dX7_keep_4 (by decide) ?_
  refine x_icmp_eq_f (pc := 6) (tgt := 17) dX7_keep_6 (by decide) (neg5 (by omega)) ?_
  refine x_iload_n (pc := 9) dX7_keep_9 rfl rfl ?_
  refine x_aload_n (pc := 10) dX7_keep_10 rfl rfl ?_
  refine x_get (pc := 11) dX7_keep_11 kf_RX7_26 hG.g_se rfl ?_
  rw [hs]
  refine x_icmpn_ge (pc := 14) (tgt := 33) (a := s) (b := r0) dX7_keep_14 (by decide) (by omega) (by omega) (fun c14 => ?_) (fun c14 => ?_)
  · skip
    refine x_return (pc := 33) dX7_keep_33 rfl ⟨Nat.le_refl _, Nat.le_refl _⟩ ?_
    first | exact K1 c14 | exact K2 c14
  · skip
    refine x_aload_n (pc := 17) dX7_keep_17 rfl rfl ?_
    refine x_iload_n (pc := 18) dX7_keep_18 rfl rfl ?_
    refine x_put (pc := 19) dX7_keep_19 kf_RX7_26 hG.g_se rfl (Or.inl kb_7_3) ?_
    refine x_aload_n (pc := 22) dX7_keep_22 rfl rfl ?_
    refine x_getr (pc := 23) dX7_keep_23 kf_RX7_23 hG.g_se rfl hG.g_se2 ?_
    refine x_aload_n (pc := 26) dX7_keep_26 rfl rfl ?_
    refine x_getr (pc := 27) dX7_keep_27 kf_RX7_20 hG.g_se rfl hG.g_se1 ?_
    refine x_callV (pc := 30) (As := [.ref _]) dX7_keep_30 km_X5_copyFrom kv_X5_copyFrom kl_RX7_74 hG.g_best.1 rfl rfl (by decide) ⟨Nat.le_refl _, Nat.le_refl _⟩ rfl (Nat.le_of_ble_eq_true rfl) (Nat.le_of_ble_eq_true rfl) (c_copyFrom hG.g_best hG.g_chosen (by omega) (by omega) ((congrFun (up2_row (by omega)) 1).trans hc) hn6 hn6 (⟨rfl, rfl, ?_⟩))
    refine x_return (pc := 33) dX7_keep_33 rfl ⟨Nat.le_refl _, Nat.le_refl _⟩ ?_
    first | exact K1 c14 | exact K2 c14

theorem c_seKeep {T : xT} {n : Nat} {sh : Nat → Nat × Nat} {I : xI} {R : xR} {L : xL} {P : xPost} {lr nw im tr rd hu se ac M : Nat} (hG : GEO sh R lr nw im tr rd hu se ac M) {acc : xB} {nb s : Nat} {ch : Nat → Nat} (hn6 : nb ≤ 6) (hss : s < 1000) (hs : SEA I se nb acc) (hlt : ∀ r, acc = some r → r.1 < 1000) (hc : I (se + 3) 1 = nI nb) (K1 : (∀ r, acc = some r → s < r.1) → P (n, sh, 0, 0) (xcopy (up2 I se 3 (nI s)) (se + 5) (se + 6) (se + 4) nb) R L none) (K2 : (∃ r, acc = some r ∧ r.1 ≤ s) → P (n, sh, 0, 0) I R L none) : XM T zX7_keep 2 [.ref se, .int (nI s)] n sh I R L P := by
  cases acc with
  | none => exact c_seKeep0 (ch := ch) hG hn6 hss hs hc (K1 (fun r e => by cases e))
  | some r => exact c_seKeep1 (ch := ch) hG hn6 hss hs.1 (hlt r rfl) hc (fun q => K1 (fun r' e => by have := Option.some.inj e; subst this; exact q)) (fun q => K2 ⟨r, rfl, q⟩)

theorem BST.leaf {V : xV} {B : Nat} {acc : xB} {ch : Nat → Nat} (hv : VOK V B) (hp : PVL V ch (V 8 0)) (h : BST V (fun t => vl t (V 8 0) < vl ch (V 8 0)) acc) : ((∀ r, acc = some r → csm V ch (V 8 0) < r.1) → BST V (fun t => vl t (V 8 0) ≤ vl ch (V 8 0)) (some (csm V ch (V 8 0), ch))) ∧ ((∃ r, acc = some r ∧ r.1 ≤ csm V ch (V 8 0)) → BST V (fun t => vl t (V 8 0) ≤ vl ch (V 8 0)) acc) := by
  have e : ∀ t, PVL V t (V 8 0) → (vl t (V 8 0) ≤ vl ch (V 8 0) ↔ (vl t (V 8 0) < vl ch (V 8 0) ∨ ∀ j, j < V 8 0 → t j = ch j)) := fun t ht => by
    constructor
    · intro q
      rcases Nat.lt_or_ge (vl t (V 8 0)) (vl ch (V 8 0)) with z | z
      · exact Or.inl z
      · refine Or.inr (vl_inj (V 8 0) (fun j hj => ⟨?_, ?_⟩) (by omega))
        · have := PVL.lt hv ht j hj
          omega
        · have := PVL.lt hv hp j hj
          omega
    · rintro (q | q)
      · exact Nat.le_of_lt q
      · rw [vl_congr _ q]
        exact Nat.le_refl _
  refine ⟨fun hk => h.put hp rfl (Nat.le_refl _) e (fun r er => Or.inl (hk r er)), fun ⟨r, er, hk⟩ => ?_⟩
  subst er
  refine BST.skip h e ?_
  have hS := h.2.1
  have hS : vl r.2 (V 8 0) < vl ch (V 8 0) := hS
  rcases Nat.lt_or_ge r.1 (csm V ch (V 8 0)) with z | z
  · exact Or.inl z
  · exact Or.inr ⟨by omega, Nat.le_of_lt hS⟩
theorem SEA.lt {V : xV} {B : Nat} {S : (Nat → Nat) → Prop} {acc : xB} (hv : VOK V B) (h : BST V S acc) : ∀ r, acc = some r → r.1 < 1000 := fun r er => by
  subst er
  obtain ⟨h1, h2, h3, h4⟩ := h
  rw [← h3]
  have v6 := hv.1
  have := csm_le (V := V) (t := r.2) (V 8 0) (fun j hj => ⟨by obtain ⟨_, _, _, vb, _⟩ := hv; exact (vb j hj).2.2.1, PVL.lt hv h1 j hj⟩)
  omega
theorem SEA.keep {I J : xI} {se nb : Nat} {acc : xB} (h : SEA I se nb acc) (h0 : J se 3 = I se 3) (h5 : J (se + 5) = I (se + 5)) (h6 : J (se + 6) = I (se + 6)) : SEA J se nb acc := by
  cases acc with
  | none => exact h0.trans h
  | some r => exact ⟨h0.trans h.1, by rw [h5]; exact h.2.1, fun i hi => by rw [show se + 5 + 1 = se + 6 from rfl, h6]; exact h.2.2 i hi⟩

set_option maxHeartbeats 4000000 in
set_option maxRecDepth 100000 in
theorem c_seatFrom_6 {T : xT} {n : Nat} {sh : Nat → Nat × Nat} {I : xI} {R : xR} {L : xL} {P : xPost} {lr nw im tr rd hu se ac M : Nat} (hG : GEO sh R lr nw im tr rd hu se ac M) {V : xV} {B : Nat} (h : FSC I nw V) (hv : VOK V B) (hy : VSY V) {l ch : Nat → Nat} {m u : Nat} {acc : xB} (hl : LSO V l m) (hm : m ≤ 6) (hls : bRow I (se + 1) m l) (hb : 6 ≤ V 8 0) (hp : PVL V ch 6) (hu : USD l ch m 6 u) (hc : I (se + 3) 1 = nI 6) (hrow : ∀ j, j < 6 → I (se + 4) j = nI (ch j)) (hs : SEA I se (V 8 0) acc) (hB : BST V (fun t => vl t 6 < vl ch 6) acc) (K : ∀ (J : xI) (acc : xB), BST V (fun t => vl t 6 ≤ vl ch 6) acc → SEA J se (V 8 0) acc → bRow J (se + 1) m l → (∃ mm, 6 ≤ mm ∧ mm ≤ 6 ∧ J (se + 3) 1 = nI mm) → (∀ j, j < 6 → J (se + 4) j = nI (ch j)) → seP se I J → P (n, sh, 0, 0) J R L none)  : XM T zX7_seatFrom 3 [.ref se, .ref nw, .int 6, .int (nI u), .int (nI (csm V ch 6))] n sh I R L P := by
  obtain ⟨v6, v12, v10, vb, vf, vw, vm, vta, vte, vod, vrg, vdi⟩ := id hv
  have e1 := hG.g_e_nw
  have e2 := hG.g_e_se
  refine x_iload_n (pc := 0) dX7_seatFrom_0 rfl rfl ?_
  refine x_aload_n (pc := 1) dX7_seatFrom_1 rfl rfl ?_
  refine x_callV (pc := 2) (As := []) dX7_seatFrom_2 km_X6_size kv_X6_size kl_RX7_46 hG.g_nw.1 rfl rfl (by decide) ⟨Nat.le_refl _, Nat.le_refl _⟩ rfl (Nat.le_of_ble_eq_true rfl) (Nat.le_of_ble_eq_true rfl) (c_size hG.g_nw (h.row 2 (by decide)) v6 (⟨rfl, rfl, ?_⟩))
  refine x_icmpn_ge_t (pc := 5) (tgt := 14) (a := 6) (b := (V 8 0)) dX7_seatFrom_5 (by decide) (by decide) (by omega) (by omega) ?_
  have hbn : V 8 0 = 6 := by omega
  have hpn : PVL V ch (V 8 0) := by rw [hbn]; exact hp
  have hBn : BST V (fun t => vl t (V 8 0) < vl ch (V 8 0)) acc := by
    have hB2 := hB
    rw [show (fun t : Nat → Nat => vl t 6 < vl ch 6) = (fun t => vl t (V 8 0) < vl ch (V 8 0)) from by rw [hbn]] at hB2
    exact hB2
  rw [show (fun t : Nat → Nat => vl t 6 ≤ vl ch 6) = (fun t => vl t (V 8 0) ≤ vl ch (V 8 0)) from by rw [hbn]] at K
  have hcs := csm_le (V := V) (t := ch) (V 8 0) (fun j hj => ⟨(vb j hj).2.2.1, PVL.lt hv hpn j hj⟩)
  rw [show csm V ch 6 = csm V ch (V 8 0) from by rw [hbn]]
  refine x_aload_n (pc := 14) dX7_seatFrom_14 rfl rfl ?_
  refine x_iload (pc := 15) dX7_seatFrom_15 rfl ?_
  refine x_callV (pc := 17) (As := [.int _]) dX7_seatFrom_17 km_X7_keep kv_X7_keep kl_RX7_50 hG.g_se rfl rfl (by decide) ⟨Nat.le_refl _, Nat.le_refl _⟩ rfl (Nat.le_of_ble_eq_true rfl) (Nat.le_of_ble_eq_true rfl) (c_seKeep (nb := V 8 0) (ch := ch) hG v6 (by omega) hs (SEA.lt hv hB) (by rw [hc, hbn]) (fun q9 => ⟨rfl, rfl, ?_⟩) (fun q9 => ⟨rfl, rfl, ?_⟩))
  · skip
    refine x_return (pc := 20) dX7_seatFrom_20 rfl ⟨Nat.le_refl _, Nat.le_refl _⟩ ?_
    first
    | exact K _ _ ((BST.leaf hv hpn hBn).1 q9) ⟨(congrFun (xcopy_o (by omega) (by omega)) 3).trans up2_s, xcopy_1, fun i hi => by rw [show se + 5 + 1 = se + 6 from rfl, xcopy_i (by omega) hi, up2_row (by omega)]; exact hrow i (by omega)⟩ (hls.keep ((xcopy_o (by omega) (by omega)).trans (up2_row (by omega))) ((xcopy_o (by omega) (by omega)).trans (up2_row (by omega)))) ⟨6, Nat.le_refl _, by decide, (congrFun ((xcopy_o (by omega) (by omega)).trans (up2_row (by omega))) 1).trans hc⟩ (fun j hj => (congrFun ((xcopy_o (by omega) (by omega)).trans (up2_row (by omega))) j).trans (hrow j hj)) (fun a p => (xcopy_o (by omega) (by omega)).trans (up2_row (by omega)))
    | exact K _ _ ((BST.leaf hv hpn hBn).2 q9) hs hls ⟨6, Nat.le_refl _, by decide, hc⟩ hrow (fun _ _ => rfl)
  · skip
    refine x_return (pc := 20) dX7_seatFrom_20 rfl ⟨Nat.le_refl _, Nat.le_refl _⟩ ?_
    first
    | exact K _ _ ((BST.leaf hv hpn hBn).1 q9) ⟨(congrFun (xcopy_o (by omega) (by omega)) 3).trans up2_s, xcopy_1, fun i hi => by rw [show se + 5 + 1 = se + 6 from rfl, xcopy_i (by omega) hi, up2_row (by omega)]; exact hrow i (by omega)⟩ (hls.keep ((xcopy_o (by omega) (by omega)).trans (up2_row (by omega))) ((xcopy_o (by omega) (by omega)).trans (up2_row (by omega)))) ⟨6, Nat.le_refl _, by decide, (congrFun ((xcopy_o (by omega) (by omega)).trans (up2_row (by omega))) 1).trans hc⟩ (fun j hj => (congrFun ((xcopy_o (by omega) (by omega)).trans (up2_row (by omega))) j).trans (hrow j hj)) (fun a p => (xcopy_o (by omega) (by omega)).trans (up2_row (by omega)))
    | exact K _ _ ((BST.leaf hv hpn hBn).2 q9) hs hls ⟨6, Nat.le_refl _, by decide, hc⟩ hrow (fun _ _ => rfl)

set_option maxHeartbeats 4000000 in
set_option maxRecDepth 100000 in
theorem l_seat_5 {T : xT} {n : Nat} {sh : Nat → Nat × Nat} {I : xI} {R : xR} {L : xL} {P : xPost} {lr nw im tr rd hu se ac M : Nat} (hG : GEO sh R lr nw im tr rd hu se ac M) {V : xV} {B : Nat} (h : FSC I nw V) (hv : VOK V B) (hy : VSY V) {l ch : Nat → Nat} {m u : Nat} (hl : LSO V l m) (hm : m ≤ 6) (hb : 5 < V 8 0) (hp : PVL V ch 5) (hu : USD l ch m 5 u) (K : ∀ (J : xI) (acc : xB), BST V (fun t => vl t 5 ≤ vl ch 5) acc → SEA J se (V 8 0) acc → bRow J (se + 1) m l → (∃ mm, 5 ≤ mm ∧ mm ≤ 6 ∧ J (se + 3) 1 = nI mm) → (∀ j, j < 5 → J (se + 4) j = nI (ch j)) → seP se I J → P (n, sh, 0, 0) J R L none)  : ∀ (w i : Nat), i + w = m → ∀ (J : xI) (acc : xB) (mm : Nat), BST V (SPr ch 5 (bnd l m i)) acc → SEA J se (V 8 0) acc → bRow J (se + 1) m l → (5 ≤ mm ∧ mm ≤ 6 ∧ J (se + 3) 1 = nI mm) → (∀ j, j < 5 → J (se + 4) j = nI (ch j)) → seP se I J → X T zX7_seatFrom 4 0 0 P 24 [(0, .ref se), (1, .ref nw), (2, .int 5), (3, .int (nI u)), (4, .int (nI (csm V ch 5))), (5, .int (nI i))] [] (n, sh, 0, 0) (J) R L := by
  obtain ⟨v6, v12, v10, vb, vf, vw, vm, vta, vte, vod, vrg, vdi⟩ := id hv
  have e1 := hG.g_e_nw
  have e2 := hG.g_e_se
  intro w
  induction w with
  | zero =>
    intro i hw J acc mm hB hs hlj hmm hrj fj
    have hz : i = m := by omega
    refine x_iload (pc := 24) dX7_seatFrom_24 rfl ?_
    refine x_aload_n (pc := 26) dX7_seatFrom_26 rfl rfl ?_
    refine x_getr (pc := 27) dX7_seatFrom_27 kf_RX7_14 hG.g_se rfl hG.g_se0 ?_
    refine x_get (pc := 30) dX7_seatFrom_30 kf_RX7_53 hG.g_stools.1 rfl ?_
    rw [hlj.1]
    refine x_icmpn_ge_t (pc := 33) (tgt := 123) (a := i) (b := m) dX7_seatFrom_33 (by decide) (by omega) (by omega) (by omega) ?_
    refine x_return (pc := 123) dX7_seatFrom_123 rfl ⟨Nat.le_refl _, Nat.le_refl _⟩ ?_
    rw [hz] at hB
    exact K J acc (hB.congr (fun t ht => SPr_m hv hb ht)) hs hlj ⟨mm, hmm⟩ hrj fj
  | succ w ih =>
    intro i hw J acc mm hB hs hlj hmm hrj fj
    have hi : i < m := by omega
    refine x_iload (pc := 24) dX7_seatFrom_24 rfl ?_
    refine x_aload_n (pc := 26) dX7_seatFrom_26 rfl rfl ?_
    refine x_getr (pc := 27) dX7_seatFrom_27 kf_RX7_14 hG.g_se rfl hG.g_se0 ?_
    refine x_get (pc := 30) dX7_seatFrom_30 kf_RX7_53 hG.g_stools.1 rfl ?_
    rw [hlj.1]
    refine x_icmpn_ge_f (pc := 33) (tgt := 123) (a := i) (b := m) dX7_seatFrom_33 (by decide) (by omega) (by omega) (by omega) ?_
    refine x_aload_n (pc := 36) dX7_seatFrom_36 rfl rfl ?_
    refine x_getr (pc := 37) dX7_seatFrom_37 kf_RX7_14 hG.g_se rfl hG.g_se0 ?_
    refine x_iload (pc := 40) dX7_seatFrom_40 rfl ?_
    refine x_callV (pc := 42) (As := [.int _]) dX7_seatFrom_42 km_X5_at kv_X5_at kl_RX7_55 hG.g_stools.1 rfl rfl (by decide) ⟨Nat.le_refl _, Nat.le_refl _⟩ rfl (Nat.le_of_ble_eq_true rfl) (Nat.le_of_ble_eq_true rfl) (c_at hG.g_stools (⟨rfl, rfl, ?_⟩))
    rw [hlj.1, rAt_in (m := m) hi hm (by decide), show J (se + 2) i = nI (l i) from hlj.2 i hi]
    have li := hl.lt hv hi
    refine x_istore (pc := 45) (lv' := [(0, .ref se), (1, .ref nw), (2, .int 5), (3, .int (nI u)), (4, .int (nI (csm V ch 5))), (5, .int (nI i)), (6, .int (nI (l i)))]) dX7_seatFrom_45 (by decide) rfl ?_
    refine x_iload_n (pc := 47) dX7_seatFrom_47 rfl rfl ?_
    refine x_iload (pc := 48) dX7_seatFrom_48 rfl ?_
    refine x_iushr (pc := 50) dX7_seatFrom_50 ?_
    refine x_iconst (pc := 51) (v := 1) dX7_seatFrom_51 (by decide) ?_
    refine x_iand (pc := 52) dX7_seatFrom_52 ?_
    rw [bget_c u hu.1 i (by omega)]
    have hbg := @bget_lt u i
    refine x_ifn_ne (pc := 53) (tgt := 117) (a := (bget u i)) dX7_seatFrom_53 (by decide) (by omega) (fun c53 => ?_) (fun c53 => ?_)
    · skip
      refine x_iinc (pc := 117) (v := nI (i + 1)) (lv' := [(0, .ref se), (1, .ref nw), (2, .int 5), (3, .int (nI u)), (4, .int (nI (csm V ch 5))), (5, .int (nI (i + 1))), (6, .int (nI (l i)))]) dX7_seatFrom_117 rfl (nI_1 _) (by decide) rfl ?_
      refine x_goto (pc := 120) (tgt := 24) dX7_seatFrom_120 (by decide) ?_
      first
      | exact X.keep [0, 1, 2, 3, 4, 5] rfl (ih (i + 1) (by omega) J acc mm (SKIP hv hl hi hb hp hB (fun t ht hpre e => by obtain ⟨j, hj, ej⟩ := (hu.2 i hi).mp (by omega); exact ht.2.1 j 5 (by omega) hb ((hpre j hj).trans (ej.trans e.symm)))) hs hlj hmm hrj fj)
      | exact X.keep [0, 1, 2, 3, 4, 5] rfl (ih (i + 1) (by omega) J acc mm (SKIP hv hl hi hb hp hB (fun t ht hpre e => by obtain ⟨j, hj, ej, ek⟩ := hby; exact ht.2.2 j 5 (by omega) hb ej (by rw [hpre j hj, e]; exact ek))) hs hlj hmm hrj fj)
      | (obtain ⟨mm3, m31, m32, m33⟩ := m3
         exact X.keep [0, 1, 2, 3, 4, 5] rfl (ih (i + 1) (by omega) J3 acc3 mm3 (b3.congr (fun t ht => SPr_out hv hl hi hb ht)) s3 l3 ⟨by omega, m32, m33⟩ (fun j hj => (r3 j (by omega)).trans (congrArg nI (chP_lo hj))) (fun a p => (f3 a p).trans ((g2 a (by omega) (by omega)).trans (fj a p)))))
    · skip
      refine x_aload_n (pc := 56) dX7_seatFrom_56 rfl rfl ?_
      refine x_aload_n (pc := 57) dX7_seatFrom_57 rfl rfl ?_
      refine x_iload_n (pc := 58) dX7_seatFrom_58 rfl rfl ?_
      refine x_iload (pc := 59) dX7_seatFrom_59 rfl ?_
      refine x_callV (pc := 61) (As := [.ref _, .int _, .int _]) dX7_seatFrom_61 km_X7_isByEnemy kv_X7_isByEnemy kl_RX7_59 hG.g_se rfl rfl (by decide) ⟨Nat.le_refl _, Nat.le_refl _⟩ rfl (Nat.le_of_ble_eq_true rfl) (Nat.le_of_ble_eq_true rfl) (c_isByEnemy (bi := 5) (ch := ch) (mm := mm) hG (h.keep (fun a p1 p2 => fj a (by omega))) hv (by omega) li (fun j hj => PVL.lt hv hp j hj) hmm hrj (fun hby => ⟨rfl, rfl, ?_⟩) (fun hny => ⟨rfl, rfl, ?_⟩))
      · skip
        refine x_if_eq_f (pc := 64) (tgt := 70) dX7_seatFrom_64 (by decide) (by decide) ?_
        refine x_goto (pc := 67) (tgt := 117) dX7_seatFrom_67 (by decide) ?_
        refine x_iinc (pc := 117) (v := nI (i + 1)) (lv' := [(0, .ref se), (1, .ref nw), (2, .int 5), (3, .int (nI u)), (4, .int (nI (csm V ch 5))), (5, .int (nI (i + 1))), (6, .int (nI (l i)))]) dX7_seatFrom_117 rfl (nI_1 _) (by decide) rfl ?_
        refine x_goto (pc := 120) (tgt := 24) dX7_seatFrom_120 (by decide) ?_
        first
        | exact X.keep [0, 1, 2, 3, 4, 5] rfl (ih (i + 1) (by omega) J acc mm (SKIP hv hl hi hb hp hB (fun t ht hpre e => by obtain ⟨j, hj, ej⟩ := (hu.2 i hi).mp (by omega); exact ht.2.1 j 5 (by omega) hb ((hpre j hj).trans (ej.trans e.symm)))) hs hlj hmm hrj fj)
        | exact X.keep [0, 1, 2, 3, 4, 5] rfl (ih (i + 1) (by omega) J acc mm (SKIP hv hl hi hb hp hB (fun t ht hpre e => by obtain ⟨j, hj, ej, ek⟩ := hby; exact ht.2.2 j 5 (by omega) hb ej (by rw [hpre j hj, e]; exact ek))) hs hlj hmm hrj fj)
        | (obtain ⟨mm3, m31, m32, m33⟩ := m3
           exact X.keep [0, 1, 2, 3, 4, 5] rfl (ih (i + 1) (by omega) J3 acc3 mm3 (b3.congr (fun t ht => SPr_out hv hl hi hb ht)) s3 l3 ⟨by omega, m32, m33⟩ (fun j hj => (r3 j (by omega)).trans (congrArg nI (chP_lo hj))) (fun a p => (f3 a p).trans ((g2 a (by omega) (by omega)).trans (fj a p)))))
      · skip
        refine x_if_eq_t (pc := 64) (tgt := 70) dX7_seatFrom_64 (by decide) (by decide) ?_
        refine x_aload_n (pc := 70) dX7_seatFrom_70 rfl rfl ?_
        refine x_getr (pc := 71) dX7_seatFrom_71 kf_RX7_20 hG.g_se rfl hG.g_se1 ?_
        refine x_iload_n (pc := 74) dX7_seatFrom_74 rfl rfl ?_
        refine x_put (pc := 75) dX7_seatFrom_75 kf_RX7_53 hG.g_chosen.1 rfl (Or.inl kb_5_1) ?_
        refine x_aload_n (pc := 78) dX7_seatFrom_78 rfl rfl ?_
        refine x_getr (pc := 79) dX7_seatFrom_79 kf_RX7_20 hG.g_se rfl hG.g_se1 ?_
        refine x_iload (pc := 82) dX7_seatFrom_82 rfl ?_
        refine x_callV (pc := 84) (As := [.int _]) dX7_seatFrom_84 km_X5_add kv_X5_add kl_RX7_39 hG.g_chosen.1 rfl rfl (by decide) ⟨Nat.le_refl _, Nat.le_refl _⟩ rfl (Nat.le_of_ble_eq_true rfl) (Nat.le_of_ble_eq_true rfl) (c_add (x := nI (l i)) (m := 5) hG.g_chosen up2_s (by decide) (⟨rfl, rfl, ?_⟩))
        refine x_aload_n (pc := 87) dX7_seatFrom_87 rfl rfl ?_
        refine x_aload_n (pc := 88) dX7_seatFrom_88 rfl rfl ?_
        refine x_iload_n (pc := 89) dX7_seatFrom_89 rfl rfl ?_
        refine x_iconst (pc := 90) (v := 1) dX7_seatFrom_90 (by decide) ?_
        refine x_iadd (pc := 91) dX7_seatFrom_91 ?_
        rw [show (5 : Int32) + 1 = 6 from rfl]
        refine x_iload_n (pc := 92) dX7_seatFrom_92 rfl rfl ?_
        refine x_iconst (pc := 93) (v := 1) dX7_seatFrom_93 (by decide) ?_
        refine x_iload (pc := 94) dX7_seatFrom_94 rfl ?_
        refine x_ishl (pc := 96) dX7_seatFrom_96 ?_
        refine x_ior (pc := 97) dX7_seatFrom_97 ?_
        rw [bset_m1 u hu.1 i (by omega)]
        refine x_iload (pc := 98) dX7_seatFrom_98 rfl ?_
        refine x_aload_n (pc := 100) dX7_seatFrom_100 rfl rfl ?_
        refine x_getr (pc := 101) dX7_seatFrom_101 kf_RX7_63 hG.g_nw.1 rfl hG.g_nw.2.2.2.2.2.1 ?_
        refine x_iload_n (pc := 104) dX7_seatFrom_104 rfl rfl ?_
        refine x_callV (pc := 105) (As := [.int _]) dX7_seatFrom_105 km_X5_at kv_X5_at kl_RX7_55 hG.g_nw.2.2.2.2.2.2.2.2.2.2.2.2.2.1.1 rfl rfl (by decide) ⟨Nat.le_refl _, Nat.le_refl _⟩ rfl (Nat.le_of_ble_eq_true rfl) (Nat.le_of_ble_eq_true rfl) (c_at (hG.g_nw.2.2.2.2.2.2.2.2.2.2.2.2.2.1) (⟨rfl, rfl, ?_⟩))
        rw [up2_row (show nw + 5 ≠ se + 3 by omega), up2_row (show nw + 5 ≠ se + 4 by omega), up2_row (show nw + 5 ≠ se + 3 by omega), up2_row (show nw + 6 ≠ se + 3 by omega), up2_row (show nw + 6 ≠ se + 4 by omega), up2_row (show nw + 6 ≠ se + 3 by omega), fj (nw + 5) (by omega), fj (nw + 6) (by omega), show I (nw + 5) 1 = nI (V 8 0) from (h.row 2 (by decide)).1, show rAt (nI (V 8 0)) 6 (I (nw + 6)) 5 = I (nw + 6) 5 from rAt_in (m := V 8 0) (k := 5) (by omega) v6 (by decide), show I (nw + 6) 5 = nI (V 2 5) from (h.row 2 (by decide)).2 5 (show 5 < V 8 0 by omega)]
        have cb := (vb 5 (by omega)).2.2.1
        refine x_iload (pc := 108) dX7_seatFrom_108 rfl ?_
        refine x_callSN (pc := 110) (As := [.int _, .int _]) dX7_seatFrom_110 km_X9_roundOf ks_X9_roundOf kn_RX7_66 rfl (by decide) ⟨Nat.le_refl _, Nat.le_refl _⟩ rfl (Nat.le_of_ble_eq_true rfl) (Nat.le_of_ble_eq_true rfl) (c_roundOf cb li (⟨rfl, rfl, ?_⟩))
        refine x_iaddn (pc := 113) (a := (csm V ch 5)) (b := (rnd (V 2 5) (l i))) dX7_seatFrom_113 ?_
        have g2 : ∀ a, a ≠ se + 3 → a ≠ se + 4 → (up2 (up2 (up2 J (se + 3) 1 5) (se + 4) 5 (nI (l i))) (se + 3) 1 (nI (5 + 1))) a = J a := fun a p q => (up2_row p).trans ((up2_row q).trans (up2_row p))
        have hno1 : ∀ j, j < 5 → ¬ ch j = l i := fun j hj e => by have := (hu.2 i hi).mpr ⟨j, hj, e⟩; omega
        have hp2 := PVL.chP hl hi hp hno1 hny
        have hr2 : ∀ j, j < 5 + 1 → (up2 (up2 (up2 J (se + 3) 1 5) (se + 4) 5 (nI (l i))) (se + 3) 1 (nI (5 + 1))) (se + 4) j = nI (chP ch 5 (l i) j) := fun j hj => by
          rw [up2_row (show se + 4 ≠ se + 3 by omega)]
          rcases Nat.lt_succ_iff_lt_or_eq.mp hj with z | z
          · rw [up2_k (by omega), up2_row (show se + 4 ≠ se + 3 by omega), chP_lo z]
            exact hrj j z
          · rw [z, up2_s, chP_b]
        rw [show csm V ch 5 + rnd (V 2 5) (l i) = csm V (chP ch 5 (l i)) (5 + 1) from csm_chP.symm]
        refine x_callS (pc := 114) (As := [.ref _, .ref _, .int _, .int _, .int _]) dX7_seatFrom_114 km_X7_seatFrom ks_X7_seatFrom kl_RX7_42 rfl (by decide) ⟨Nat.le_refl _, Nat.le_refl _⟩ rfl (Nat.le_of_ble_eq_true rfl) (Nat.le_of_ble_eq_true rfl) (c_seatFrom_6 (ch := chP ch 5 (l i)) (acc := acc) hG (h.keep (fun a p1 p2 => (g2 a (by omega) (by omega)).trans (fj a (by omega)))) hv hy hl hm (hlj.keep (g2 _ (by omega) (by omega)) (g2 _ (by omega) (by omega))) (show 6 ≤ V 8 0 by omega) hp2 (hu.put hm hi (fun j hj e => hl.inj hj hi e)) up2_s hr2 (hs.keep (congrFun (g2 _ (by omega) (by omega)) 3) (g2 _ (by omega) (by omega)) (g2 _ (by omega) (by omega))) (hB.congr (fun t ht => SPr_in (if_pos hi))) (fun J3 acc3 b3 s3 l3 m3 r3 f3 => ⟨rfl, rfl, ?_⟩))
        refine x_iinc (pc := 117) (v := nI (i + 1)) (lv' := [(0, .ref se), (1, .ref nw), (2, .int 5), (3, .int (nI u)), (4, .int (nI (csm V ch 5))), (5, .int (nI (i + 1))), (6, .int (nI (l i)))]) dX7_seatFrom_117 rfl (nI_1 _) (by decide) rfl ?_
        refine x_goto (pc := 120) (tgt := 24) dX7_seatFrom_120 (by decide) ?_
        first
        | exact X.keep [0, 1, 2, 3, 4, 5] rfl (ih (i + 1) (by omega) J acc mm (SKIP hv hl hi hb hp hB (fun t ht hpre e => by obtain ⟨j, hj, ej⟩ := (hu.2 i hi).mp (by omega); exact ht.2.1 j 5 (by omega) hb ((hpre j hj).trans (ej.trans e.symm)))) hs hlj hmm hrj fj)
        | exact X.keep [0, 1, 2, 3, 4, 5] rfl (ih (i + 1) (by omega) J acc mm (SKIP hv hl hi hb hp hB (fun t ht hpre e => by obtain ⟨j, hj, ej, ek⟩ := hby; exact ht.2.2 j 5 (by omega) hb ej (by rw [hpre j hj, e]; exact ek))) hs hlj hmm hrj fj)
        | (obtain ⟨mm3, m31, m32, m33⟩ := m3
           exact X.keep [0, 1, 2, 3, 4, 5] rfl (ih (i + 1) (by omega) J3 acc3 mm3 (b3.congr (fun t ht => SPr_out hv hl hi hb ht)) s3 l3 ⟨by omega, m32, m33⟩ (fun j hj => (r3 j (by omega)).trans (congrArg nI (chP_lo hj))) (fun a p => (f3 a p).trans ((g2 a (by omega) (by omega)).trans (fj a p)))))

set_option maxHeartbeats 4000000 in
set_option maxRecDepth 100000 in
theorem c_seatFrom_5 {T : xT} {n : Nat} {sh : Nat → Nat × Nat} {I : xI} {R : xR} {L : xL} {P : xPost} {lr nw im tr rd hu se ac M : Nat} (hG : GEO sh R lr nw im tr rd hu se ac M) {V : xV} {B : Nat} (h : FSC I nw V) (hv : VOK V B) (hy : VSY V) {l ch : Nat → Nat} {m u : Nat} {acc : xB} (hl : LSO V l m) (hm : m ≤ 6) (hls : bRow I (se + 1) m l) (hb : 5 ≤ V 8 0) (hp : PVL V ch 5) (hu : USD l ch m 5 u) (hc : I (se + 3) 1 = nI 5) (hrow : ∀ j, j < 5 → I (se + 4) j = nI (ch j)) (hs : SEA I se (V 8 0) acc) (hB : BST V (fun t => vl t 5 < vl ch 5) acc) (K : ∀ (J : xI) (acc : xB), BST V (fun t => vl t 5 ≤ vl ch 5) acc → SEA J se (V 8 0) acc → bRow J (se + 1) m l → (∃ mm, 5 ≤ mm ∧ mm ≤ 6 ∧ J (se + 3) 1 = nI mm) → (∀ j, j < 5 → J (se + 4) j = nI (ch j)) → seP se I J → P (n, sh, 0, 0) J R L none)  : XM T zX7_seatFrom 4 [.ref se, .ref nw, .int 5, .int (nI u), .int (nI (csm V ch 5))] n sh I R L P := by
  obtain ⟨v6, v12, v10, vb, vf, vw, vm, vta, vte, vod, vrg, vdi⟩ := id hv
  have e1 := hG.g_e_nw
  have e2 := hG.g_e_se
  refine x_iload_n (pc := 0) dX7_seatFrom_0 rfl rfl ?_
  refine x_aload_n (pc := 1) dX7_seatFrom_1 rfl rfl ?_
  refine x_callV (pc := 2) (As := []) dX7_seatFrom_2 km_X6_size kv_X6_size kl_RX7_46 hG.g_nw.1 rfl rfl (by decide) ⟨Nat.le_refl _, Nat.le_refl _⟩ rfl (Nat.le_of_ble_eq_true rfl) (Nat.le_of_ble_eq_true rfl) (c_size hG.g_nw (h.row 2 (by decide)) v6 (⟨rfl, rfl, ?_⟩))
  refine x_icmpn_ge (pc := 5) (tgt := 14) (a := 5) (b := (V 8 0)) dX7_seatFrom_5 (by decide) (by decide) (by omega) (fun c5 => ?_) (fun c5 => ?_)
  · skip
    have hbn : V 8 0 = 5 := by omega
    have hpn : PVL V ch (V 8 0) := by rw [hbn]; exact hp
    have hBn : BST V (fun t => vl t (V 8 0) < vl ch (V 8 0)) acc := by
      have hB2 := hB
      rw [show (fun t : Nat → Nat => vl t 5 < vl ch 5) = (fun t => vl t (V 8 0) < vl ch (V 8 0)) from by rw [hbn]] at hB2
      exact hB2
    rw [show (fun t : Nat → Nat => vl t 5 ≤ vl ch 5) = (fun t => vl t (V 8 0) ≤ vl ch (V 8 0)) from by rw [hbn]] at K
    have hcs := csm_le (V := V) (t := ch) (V 8 0) (fun j hj => ⟨(vb j hj).2.2.1, PVL.lt hv hpn j hj⟩)
    rw [show csm V ch 5 = csm V ch (V 8 0) from by rw [hbn]]
    refine x_aload_n (pc := 14) dX7_seatFrom_14 rfl rfl ?_
    refine x_iload (pc := 15) dX7_seatFrom_15 rfl ?_
    refine x_callV (pc := 17) (As := [.int _]) dX7_seatFrom_17 km_X7_keep kv_X7_keep kl_RX7_50 hG.g_se rfl rfl (by decide) ⟨Nat.le_refl _, Nat.le_refl _⟩ rfl (Nat.le_of_ble_eq_true rfl) (Nat.le_of_ble_eq_true rfl) (c_seKeep (nb := V 8 0) (ch := ch) hG v6 (by omega) hs (SEA.lt hv hB) (by rw [hc, hbn]) (fun q9 => ⟨rfl, rfl, ?_⟩) (fun q9 => ⟨rfl, rfl, ?_⟩))
    · skip
      refine x_return (pc := 20) dX7_seatFrom_20 rfl ⟨Nat.le_refl _, Nat.le_refl _⟩ ?_
      first
      | exact K _ _ ((BST.leaf hv hpn hBn).1 q9) ⟨(congrFun (xcopy_o (by omega) (by omega)) 3).trans up2_s, xcopy_1, fun i hi => by rw [show se + 5 + 1 = se + 6 from rfl, xcopy_i (by omega) hi, up2_row (by omega)]; exact hrow i (by omega)⟩ (hls.keep ((xcopy_o (by omega) (by omega)).trans (up2_row (by omega))) ((xcopy_o (by omega) (by omega)).trans (up2_row (by omega)))) ⟨5, Nat.le_refl _, by decide, (congrFun ((xcopy_o (by omega) (by omega)).trans (up2_row (by omega))) 1).trans hc⟩ (fun j hj => (congrFun ((xcopy_o (by omega) (by omega)).trans (up2_row (by omega))) j).trans (hrow j hj)) (fun a p => (xcopy_o (by omega) (by omega)).trans (up2_row (by omega)))
      | exact K _ _ ((BST.leaf hv hpn hBn).2 q9) hs hls ⟨5, Nat.le_refl _, by decide, hc⟩ hrow (fun _ _ => rfl)
    · skip
      refine x_return (pc := 20) dX7_seatFrom_20 rfl ⟨Nat.le_refl _, Nat.le_refl _⟩ ?_
      first
      | exact K _ _ ((BST.leaf hv hpn hBn).1 q9) ⟨(congrFun (xcopy_o (by omega) (by omega)) 3).trans up2_s, xcopy_1, fun i hi => by rw [show se + 5 + 1 = se + 6 from rfl, xcopy_i (by omega) hi, up2_row (by omega)]; exact hrow i (by omega)⟩ (hls.keep ((xcopy_o (by omega) (by omega)).trans (up2_row (by omega))) ((xcopy_o (by omega) (by omega)).trans (up2_row (by omega)))) ⟨5, Nat.le_refl _, by decide, (congrFun ((xcopy_o (by omega) (by omega)).trans (up2_row (by omega))) 1).trans hc⟩ (fun j hj => (congrFun ((xcopy_o (by omega) (by omega)).trans (up2_row (by omega))) j).trans (hrow j hj)) (fun a p => (xcopy_o (by omega) (by omega)).trans (up2_row (by omega)))
      | exact K _ _ ((BST.leaf hv hpn hBn).2 q9) hs hls ⟨5, Nat.le_refl _, by decide, hc⟩ hrow (fun _ _ => rfl)
  · skip
    refine x_iload_n (pc := 8) dX7_seatFrom_8 rfl rfl ?_
    refine x_bipush (pc := 9) (v := 6) dX7_seatFrom_9 (by decide) ?_
    refine x_icmp_lt_t (pc := 11) (tgt := 21) dX7_seatFrom_11 (by decide) (by decide) ?_
    refine x_iconst (pc := 21) (v := 0) dX7_seatFrom_21 (by decide) ?_
    refine x_istore (pc := 22) (lv' := [(0, .ref se), (1, .ref nw), (2, .int 5), (3, .int (nI u)), (4, .int (nI (csm V ch 5))), (5, .int 0)]) dX7_seatFrom_22 (by decide) rfl ?_
    have hb2 : 5 < V 8 0 := by omega
    exact l_seat_5 hG h hv hy hl hm hb2 hp hu K m 0 (by omega) I acc 5 (hB.congr (fun t ht => SPr_0 hv hl hb2 ht)) hs hls ⟨Nat.le_refl _, by decide, hc⟩ hrow (fun _ _ => rfl)

set_option maxHeartbeats 4000000 in
set_option maxRecDepth 100000 in
theorem l_seat_4 {T : xT} {n : Nat} {sh : Nat → Nat × Nat} {I : xI} {R : xR} {L : xL} {P : xPost} {lr nw im tr rd hu se ac M : Nat} (hG : GEO sh R lr nw im tr rd hu se ac M) {V : xV} {B : Nat} (h : FSC I nw V) (hv : VOK V B) (hy : VSY V) {l ch : Nat → Nat} {m u : Nat} (hl : LSO V l m) (hm : m ≤ 6) (hb : 4 < V 8 0) (hp : PVL V ch 4) (hu : USD l ch m 4 u) (K : ∀ (J : xI) (acc : xB), BST V (fun t => vl t 4 ≤ vl ch 4) acc → SEA J se (V 8 0) acc → bRow J (se + 1) m l → (∃ mm, 4 ≤ mm ∧ mm ≤ 6 ∧ J (se + 3) 1 = nI mm) → (∀ j, j < 4 → J (se + 4) j = nI (ch j)) → seP se I J → P (n, sh, 0, 0) J R L none)  : ∀ (w i : Nat), i + w = m → ∀ (J : xI) (acc : xB) (mm : Nat), BST V (SPr ch 4 (bnd l m i)) acc → SEA J se (V 8 0) acc → bRow J (se + 1) m l → (4 ≤ mm ∧ mm ≤ 6 ∧ J (se + 3) 1 = nI mm) → (∀ j, j < 4 → J (se + 4) j = nI (ch j)) → seP se I J → X T zX7_seatFrom 5 0 0 P 24 [(0, .ref se), (1, .ref nw), (2, .int 4), (3, .int (nI u)), (4, .int (nI (csm V ch 4))), (5, .int (nI i))] [] (n, sh, 0, 0) (J) R L := by
  obtain ⟨v6, v12, v10, vb, vf, vw, vm, vta, vte, vod, vrg, vdi⟩ := id hv
  have e1 := hG.g_e_nw
  have e2 := hG.g_e_se
  intro w
  induction w with
  | zero =>
    intro i hw J acc mm hB hs hlj hmm hrj fj
    have hz : i = m := by omega
    refine x_iload (pc := 24) dX7_seatFrom_24 rfl ?_
    refine x_aload_n (pc := 26) dX7_seatFrom_26 rfl rfl ?_
    refine x_getr (pc := 27) dX7_seatFrom_27 kf_RX7_14 hG.g_se rfl hG.g_se0 ?_
    refine x_get (pc := 30) dX7_seatFrom_30 kf_RX7_53 hG.g_stools.1 rfl ?_
    rw [hlj.1]
    refine x_icmpn_ge_t (pc := 33) (tgt := 123) (a := i) (b := m) dX7_seatFrom_33 (by decide) (by omega) (by omega) (by omega) ?_
    refine x_return (pc := 123) dX7_seatFrom_123 rfl ⟨Nat.le_refl _, Nat.le_refl _⟩ ?_
    rw [hz] at hB
    exact K J acc (hB.congr (fun t ht => SPr_m hv hb ht)) hs hlj ⟨mm, hmm⟩ hrj fj
  | succ w ih =>
    intro i hw J acc mm hB hs hlj hmm hrj fj
    have hi : i < m := by omega
    refine x_iload (pc := 24) dX7_seatFrom_24 rfl ?_
    refine x_aload_n (pc := 26) dX7_seatFrom_26 rfl rfl ?_
    refine x_getr (pc := 27) dX7_seatFrom_27 kf_RX7_14 hG.g_se rfl hG.g_se0 ?_
    refine x_get (pc := 30) dX7_seatFrom_30 kf_RX7_53 hG.g_stools.1 rfl ?_
    rw [hlj.1]
    refine x_icmpn_ge_f (pc := 33) (tgt := 123) (a := i) (b := m) dX7_seatFrom_33 (by decide) (by omega) (by omega) (by omega) ?_
    refine x_aload_n (pc := 36) dX7_seatFrom_36 rfl rfl ?_
    refine x_getr (pc := 37) dX7_seatFrom_37 kf_RX7_14 hG.g_se rfl hG.g_se0 ?_
    refine x_iload (pc := 40) dX7_seatFrom_40 rfl ?_
    refine x_callV (pc := 42) (As := [.int _]) dX7_seatFrom_42 km_X5_at kv_X5_at kl_RX7_55 hG.g_stools.1 rfl rfl (by decide) ⟨Nat.le_refl _, Nat.le_refl _⟩ rfl (Nat.le_of_ble_eq_true rfl) (Nat.le_of_ble_eq_true rfl) (c_at hG.g_stools (⟨rfl, rfl, ?_⟩))
    rw [hlj.1, rAt_in (m := m) hi hm (by decide), show J (se + 2) i = nI (l i) from hlj.2 i hi]
    have li := hl.lt hv hi
    refine x_istore (pc := 45) (lv' := [(0, .ref se), (1, .ref nw), (2, .int 4), (3, .int (nI u)), (4, .int (nI (csm V ch 4))), (5, .int (nI i)), (6, .int (nI (l i)))]) dX7_seatFrom_45 (by decide) rfl ?_
    refine x_iload_n (pc := 47) dX7_seatFrom_47 rfl rfl ?_
    refine x_iload (pc := 48) dX7_seatFrom_48 rfl ?_
    refine x_iushr (pc := 50) dX7_seatFrom_50 ?_
    refine x_iconst (pc := 51) (v := 1) dX7_seatFrom_51 (by decide) ?_
    refine x_iand (pc := 52) dX7_seatFrom_52 ?_
    rw [bget_c u hu.1 i (by omega)]
    have hbg := @bget_lt u i
    refine x_ifn_ne (pc := 53) (tgt := 117) (a := (bget u i)) dX7_seatFrom_53 (by decide) (by omega) (fun c53 => ?_) (fun c53 => ?_)
    · skip
      refine x_iinc (pc := 117) (v := nI (i + 1)) (lv' := [(0, .ref se), (1, .ref nw), (2, .int 4), (3, .int (nI u)), (4, .int (nI (csm V ch 4))), (5, .int (nI (i + 1))), (6, .int (nI (l i)))]) dX7_seatFrom_117 rfl (nI_1 _) (by decide) rfl ?_
      refine x_goto (pc := 120) (tgt := 24) dX7_seatFrom_120 (by decide) ?_
      first
      | exact X.keep [0, 1, 2, 3, 4, 5] rfl (ih (i + 1) (by omega) J acc mm (SKIP hv hl hi hb hp hB (fun t ht hpre e => by obtain ⟨j, hj, ej⟩ := (hu.2 i hi).mp (by omega); exact ht.2.1 j 4 (by omega) hb ((hpre j hj).trans (ej.trans e.symm)))) hs hlj hmm hrj fj)
      | exact X.keep [0, 1, 2, 3, 4, 5] rfl (ih (i + 1) (by omega) J acc mm (SKIP hv hl hi hb hp hB (fun t ht hpre e => by obtain ⟨j, hj, ej, ek⟩ := hby; exact ht.2.2 j 4 (by omega) hb ej (by rw [hpre j hj, e]; exact ek))) hs hlj hmm hrj fj)
      | (obtain ⟨mm3, m31, m32, m33⟩ := m3
         exact X.keep [0, 1, 2, 3, 4, 5] rfl (ih (i + 1) (by omega) J3 acc3 mm3 (b3.congr (fun t ht => SPr_out hv hl hi hb ht)) s3 l3 ⟨by omega, m32, m33⟩ (fun j hj => (r3 j (by omega)).trans (congrArg nI (chP_lo hj))) (fun a p => (f3 a p).trans ((g2 a (by omega) (by omega)).trans (fj a p)))))
    · skip
      refine x_aload_n (pc := 56) dX7_seatFrom_56 rfl rfl ?_
      refine x_aload_n (pc := 57) dX7_seatFrom_57 rfl rfl ?_
      refine x_iload_n (pc := 58) dX7_seatFrom_58 rfl rfl ?_
      refine x_iload (pc := 59) dX7_seatFrom_59 rfl ?_
      refine x_callV (pc := 61) (As := [.ref _, .int _, .int _]) dX7_seatFrom_61 km_X7_isByEnemy kv_X7_isByEnemy kl_RX7_59 hG.g_se rfl rfl (by decide) ⟨Nat.le_refl _, Nat.le_refl _⟩ rfl (Nat.le_of_ble_eq_true rfl) (Nat.le_of_ble_eq_true rfl) (c_isByEnemy (bi := 4) (ch := ch) (mm := mm) hG (h.keep (fun a p1 p2 => fj a (by omega))) hv (by omega) li (fun j hj => PVL.lt hv hp j hj) hmm hrj (fun hby => ⟨rfl, rfl, ?_⟩) (fun hny => ⟨rfl, rfl, ?_⟩))
      · skip
        refine x_if_eq_f (pc := 64) (tgt := 70) dX7_seatFrom_64 (by decide) (by decide) ?_
        refine x_goto (pc := 67) (tgt := 117) dX7_seatFrom_67 (by decide) ?_
        refine x_iinc (pc := 117) (v := nI (i + 1)) (lv' := [(0, .ref se), (1, .ref nw), (2, .int 4), (3, .int (nI u)), (4, .int (nI (csm V ch 4))), (5, .int (nI (i + 1))), (6, .int (nI (l i)))]) dX7_seatFrom_117 rfl (nI_1 _) (by decide) rfl ?_
        refine x_goto (pc := 120) (tgt := 24) dX7_seatFrom_120 (by decide) ?_
        first
        | exact X.keep [0, 1, 2, 3, 4, 5] rfl (ih (i + 1) (by omega) J acc mm (SKIP hv hl hi hb hp hB (fun t ht hpre e => by obtain ⟨j, hj, ej⟩ := (hu.2 i hi).mp (by omega); exact ht.2.1 j 4 (by omega) hb ((hpre j hj).trans (ej.trans e.symm)))) hs hlj hmm hrj fj)
        | exact X.keep [0, 1, 2, 3, 4, 5] rfl (ih (i + 1) (by omega) J acc mm (SKIP hv hl hi hb hp hB (fun t ht hpre e => by obtain ⟨j, hj, ej, ek⟩ := hby; exact ht.2.2 j 4 (by omega) hb ej (by rw [hpre j hj, e]; exact ek))) hs hlj hmm hrj fj)
        | (obtain ⟨mm3, m31, m32, m33⟩ := m3
           exact X.keep [0, 1, 2, 3, 4, 5] rfl (ih (i + 1) (by omega) J3 acc3 mm3 (b3.congr (fun t ht => SPr_out hv hl hi hb ht)) s3 l3 ⟨by omega, m32, m33⟩ (fun j hj => (r3 j (by omega)).trans (congrArg nI (chP_lo hj))) (fun a p => (f3 a p).trans ((g2 a (by omega) (by omega)).trans (fj a p)))))
      · skip
        refine x_if_eq_t (pc := 64) (tgt := 70) dX7_seatFrom_64 (by decide) (by decide) ?_
        refine x_aload_n (pc := 70) dX7_seatFrom_70 rfl rfl ?_
        refine x_getr (pc := 71) dX7_seatFrom_71 kf_RX7_20 hG.g_se rfl hG.g_se1 ?_
        refine x_iload_n (pc := 74) dX7_seatFrom_74 rfl rfl ?_
        refine x_put (pc := 75) dX7_seatFrom_75 kf_RX7_53 hG.g_chosen.1 rfl (Or.inl kb_5_1) ?_
        refine x_aload_n (pc := 78) dX7_seatFrom_78 rfl rfl ?_
        refine x_getr (pc := 79) dX7_seatFrom_79 kf_RX7_20 hG.g_se rfl hG.g_se1 ?_
        refine x_iload (pc := 82) dX7_seatFrom_82 rfl ?_
        refine x_callV (pc := 84) (As := [.int _]) dX7_seatFrom_84 km_X5_add kv_X5_add kl_RX7_39 hG.g_chosen.1 rfl rfl (by decide) ⟨Nat.le_refl _, Nat.le_refl _⟩ rfl (Nat.le_of_ble_eq_true rfl) (Nat.le_of_ble_eq_true rfl) (c_add (x := nI (l i)) (m := 4) hG.g_chosen up2_s (by decide) (⟨rfl, rfl, ?_⟩))
        refine x_aload_n (pc := 87) dX7_seatFrom_87 rfl rfl ?_
        refine x_aload_n (pc := 88) dX7_seatFrom_88 rfl rfl ?_
        refine x_iload_n (pc := 89) dX7_seatFrom_89 rfl rfl ?_
        refine x_iconst (pc := 90) (v := 1) dX7_seatFrom_90 (by decide) ?_
        refine x_iadd (pc := 91) dX7_seatFrom_91 ?_
        rw [show (4 : Int32) + 1 = 5 from rfl]
        refine x_iload_n (pc := 92) dX7_seatFrom_92 rfl rfl ?_
        refine x_iconst (pc := 93) (v := 1) dX7_seatFrom_93 (by decide) ?_
        refine x_iload (pc := 94) dX7_seatFrom_94 rfl ?_
        refine x_ishl (pc := 96) dX7_seatFrom_96 ?_
        refine x_ior (pc := 97) dX7_seatFrom_97 ?_
        rw [bset_m1 u hu.1 i (by omega)]
        refine x_iload (pc := 98) dX7_seatFrom_98 rfl ?_
        refine x_aload_n (pc := 100) dX7_seatFrom_100 rfl rfl ?_
        refine x_getr (pc := 101) dX7_seatFrom_101 kf_RX7_63 hG.g_nw.1 rfl hG.g_nw.2.2.2.2.2.1 ?_
        refine x_iload_n (pc := 104) dX7_seatFrom_104 rfl rfl ?_
        refine x_callV (pc := 105) (As := [.int _]) dX7_seatFrom_105 km_X5_at kv_X5_at kl_RX7_55 hG.g_nw.2.2.2.2.2.2.2.2.2.2.2.2.2.1.1 rfl rfl (by decide) ⟨Nat.le_refl _, Nat.le_refl _⟩ rfl (Nat.le_of_ble_eq_true rfl) (Nat.le_of_ble_eq_true rfl) (c_at (hG.g_nw.2.2.2.2.2.2.2.2.2.2.2.2.2.1) (⟨rfl, rfl, ?_⟩))
        rw [up2_row (show nw + 5 ≠ se + 3 by omega), up2_row (show nw + 5 ≠ se + 4 by omega), up2_row (show nw + 5 ≠ se + 3 by omega), up2_row (show nw + 6 ≠ se + 3 by omega), up2_row (show nw + 6 ≠ se + 4 by omega), up2_row (show nw + 6 ≠ se + 3 by omega), fj (nw + 5) (by omega), fj (nw + 6) (by omega), show I (nw + 5) 1 = nI (V 8 0) from (h.row 2 (by decide)).1, show rAt (nI (V 8 0)) 6 (I (nw + 6)) 4 = I (nw + 6) 4 from rAt_in (m := V 8 0) (k := 4) (by omega) v6 (by decide), show I (nw + 6) 4 = nI (V 2 4) from (h.row 2 (by decide)).2 4 (show 4 < V 8 0 by omega)]
        have cb := (vb 4 (by omega)).2.2.1
        refine x_iload (pc := 108) dX7_seatFrom_108 rfl ?_
        refine x_callSN (pc := 110) (As := [.int _, .int _]) dX7_seatFrom_110 km_X9_roundOf ks_X9_roundOf kn_RX7_66 rfl (by decide) ⟨Nat.le_refl _, Nat.le_refl _⟩ rfl (Nat.le_of_ble_eq_true rfl) (Nat.le_of_ble_eq_true rfl) (c_roundOf cb li (⟨rfl, rfl, ?_⟩))
        refine x_iaddn (pc := 113) (a := (csm V ch 4)) (b := (rnd (V 2 4) (l i))) dX7_seatFrom_113 ?_
        have g2 : ∀ a, a ≠ se + 3 → a ≠ se + 4 → (up2 (up2 (up2 J (se + 3) 1 4) (se + 4) 4 (nI (l i))) (se + 3) 1 (nI (4 + 1))) a = J a := fun a p q => (up2_row p).trans ((up2_row q).trans (up2_row p))
        have hno1 : ∀ j, j < 4 → ¬ ch j = l i := fun j hj e => by have := (hu.2 i hi).mpr ⟨j, hj, e⟩; omega
        have hp2 := PVL.chP hl hi hp hno1 hny
        have hr2 : ∀ j, j < 4 + 1 → (up2 (up2 (up2 J (se + 3) 1 4) (se + 4) 4 (nI (l i))) (se + 3) 1 (nI (4 + 1))) (se + 4) j = nI (chP ch 4 (l i) j) := fun j hj => by
          rw [up2_row (show se + 4 ≠ se + 3 by omega)]
          rcases Nat.lt_succ_iff_lt_or_eq.mp hj with z | z
          · rw [up2_k (by omega), up2_row (show se + 4 ≠ se + 3 by omega), chP_lo z]
            exact hrj j z
          · rw [z, up2_s, chP_b]
        rw [show csm V ch 4 + rnd (V 2 4) (l i) = csm V (chP ch 4 (l i)) (4 + 1) from csm_chP.symm]
        refine x_callS (pc := 114) (As := [.ref _, .ref _, .int _, .int _, .int _]) dX7_seatFrom_114 km_X7_seatFrom ks_X7_seatFrom kl_RX7_42 rfl (by decide) ⟨Nat.le_refl _, Nat.le_refl _⟩ rfl (Nat.le_of_ble_eq_true rfl) (Nat.le_of_ble_eq_true rfl) (c_seatFrom_5 (ch := chP ch 4 (l i)) (acc := acc) hG (h.keep (fun a p1 p2 => (g2 a (by omega) (by omega)).trans (fj a (by omega)))) hv hy hl hm (hlj.keep (g2 _ (by omega) (by omega)) (g2 _ (by omega) (by omega))) (show 5 ≤ V 8 0 by omega) hp2 (hu.put hm hi (fun j hj e => hl.inj hj hi e)) up2_s hr2 (hs.keep (congrFun (g2 _ (by omega) (by omega)) 3) (g2 _ (by omega) (by omega)) (g2 _ (by omega) (by omega))) (hB.congr (fun t ht => SPr_in (if_pos hi))) (fun J3 acc3 b3 s3 l3 m3 r3 f3 => ⟨rfl, rfl, ?_⟩))
        refine x_iinc (pc := 117) (v := nI (i + 1)) (lv' := [(0, .ref se), (1, .ref nw), (2, .int 4), (3, .int (nI u)), (4, .int (nI (csm V ch 4))), (5, .int (nI (i + 1))), (6, .int (nI (l i)))]) dX7_seatFrom_117 rfl (nI_1 _) (by decide) rfl ?_
        refine x_goto (pc := 120) (tgt := 24) dX7_seatFrom_120 (by decide) ?_
        first
        | exact X.keep [0, 1, 2, 3, 4, 5] rfl (ih (i + 1) (by omega) J acc mm (SKIP hv hl hi hb hp hB (fun t ht hpre e => by obtain ⟨j, hj, ej⟩ := (hu.2 i hi).mp (by omega); exact ht.2.1 j 4 (by omega) hb ((hpre j hj).trans (ej.trans e.symm)))) hs hlj hmm hrj fj)
        | exact X.keep [0, 1, 2, 3, 4, 5] rfl (ih (i + 1) (by omega) J acc mm (SKIP hv hl hi hb hp hB (fun t ht hpre e => by obtain ⟨j, hj, ej, ek⟩ := hby; exact ht.2.2 j 4 (by omega) hb ej (by rw [hpre j hj, e]; exact ek))) hs hlj hmm hrj fj)
        | (obtain ⟨mm3, m31, m32, m33⟩ := m3
           exact X.keep [0, 1, 2, 3, 4, 5] rfl (ih (i + 1) (by omega) J3 acc3 mm3 (b3.congr (fun t ht => SPr_out hv hl hi hb ht)) s3 l3 ⟨by omega, m32, m33⟩ (fun j hj => (r3 j (by omega)).trans (congrArg nI (chP_lo hj))) (fun a p => (f3 a p).trans ((g2 a (by omega) (by omega)).trans (fj a p)))))

set_option maxHeartbeats 4000000 in
set_option maxRecDepth 100000 in
theorem c_seatFrom_4 {T : xT} {n : Nat} {sh : Nat → Nat × Nat} {I : xI} {R : xR} {L : xL} {P : xPost} {lr nw im tr rd hu se ac M : Nat} (hG : GEO sh R lr nw im tr rd hu se ac M) {V : xV} {B : Nat} (h : FSC I nw V) (hv : VOK V B) (hy : VSY V) {l ch : Nat → Nat} {m u : Nat} {acc : xB} (hl : LSO V l m) (hm : m ≤ 6) (hls : bRow I (se + 1) m l) (hb : 4 ≤ V 8 0) (hp : PVL V ch 4) (hu : USD l ch m 4 u) (hc : I (se + 3) 1 = nI 4) (hrow : ∀ j, j < 4 → I (se + 4) j = nI (ch j)) (hs : SEA I se (V 8 0) acc) (hB : BST V (fun t => vl t 4 < vl ch 4) acc) (K : ∀ (J : xI) (acc : xB), BST V (fun t => vl t 4 ≤ vl ch 4) acc → SEA J se (V 8 0) acc → bRow J (se + 1) m l → (∃ mm, 4 ≤ mm ∧ mm ≤ 6 ∧ J (se + 3) 1 = nI mm) → (∀ j, j < 4 → J (se + 4) j = nI (ch j)) → seP se I J → P (n, sh, 0, 0) J R L none)  : XM T zX7_seatFrom 5 [.ref se, .ref nw, .int 4, .int (nI u), .int (nI (csm V ch 4))] n sh I R L P := by
  obtain ⟨v6, v12, v10, vb, vf, vw, vm, vta, vte, vod, vrg, vdi⟩ := id hv
  have e1 := hG.g_e_nw
  have e2 := hG.g_e_se
  refine x_iload_n (pc := 0) dX7_seatFrom_0 rfl rfl ?_
  refine x_aload_n (pc := 1) dX7_seatFrom_1 rfl rfl ?_
  refine x_callV (pc := 2) (As := []) dX7_seatFrom_2 km_X6_size kv_X6_size kl_RX7_46 hG.g_nw.1 rfl rfl (by decide) ⟨Nat.le_refl _, Nat.le_refl _⟩ rfl (Nat.le_of_ble_eq_true rfl) (Nat.le_of_ble_eq_true rfl) (c_size hG.g_nw (h.row 2 (by decide)) v6 (⟨rfl, rfl, ?_⟩))
  refine x_icmpn_ge (pc := 5) (tgt := 14) (a := 4) (b := (V 8 0)) dX7_seatFrom_5 (by decide) (by decide) (by omega) (fun c5 => ?_) (fun c5 => ?_)
  · skip
    have hbn : V 8 0 = 4 := by omega
    have hpn : PVL V ch (V 8 0) := by rw [hbn]; exact hp
    have hBn : BST V (fun t => vl t (V 8 0) < vl ch (V 8 0)) acc := by
      have hB2 := hB
      rw [show (fun t : Nat → Nat => vl t 4 < vl ch 4) = (fun t => vl t (V 8 0) < vl ch (V 8 0)) from by rw [hbn]] at hB2
      exact hB2
    rw [show (fun t : Nat → Nat => vl t 4 ≤ vl ch 4) = (fun t => vl t (V 8 0) ≤ vl ch (V 8 0)) from by rw [hbn]] at K
    have hcs := csm_le (V := V) (t := ch) (V 8 0) (fun j hj => ⟨(vb j hj).2.2.1, PVL.lt hv hpn j hj⟩)
    rw [show csm V ch 4 = csm V ch (V 8 0) from by rw [hbn]]
    refine x_aload_n (pc := 14) dX7_seatFrom_14 rfl rfl ?_
    refine x_iload (pc := 15) dX7_seatFrom_15 rfl ?_
    refine x_callV (pc := 17) (As := [.int _]) dX7_seatFrom_17 km_X7_keep kv_X7_keep kl_RX7_50 hG.g_se rfl rfl (by decide) ⟨Nat.le_refl _, Nat.le_refl _⟩ rfl (Nat.le_of_ble_eq_true rfl) (Nat.le_of_ble_eq_true rfl) (c_seKeep (nb := V 8 0) (ch := ch) hG v6 (by omega) hs (SEA.lt hv hB) (by rw [hc, hbn]) (fun q9 => ⟨rfl, rfl, ?_⟩) (fun q9 => ⟨rfl, rfl, ?_⟩))
    · skip
      refine x_return (pc := 20) dX7_seatFrom_20 rfl ⟨Nat.le_refl _, Nat.le_refl _⟩ ?_
      first
      | exact K _ _ ((BST.leaf hv hpn hBn).1 q9) ⟨(congrFun (xcopy_o (by omega) (by omega)) 3).trans up2_s, xcopy_1, fun i hi => by rw [show se + 5 + 1 = se + 6 from rfl, xcopy_i (by omega) hi, up2_row (by omega)]; exact hrow i (by omega)⟩ (hls.keep ((xcopy_o (by omega) (by omega)).trans (up2_row (by omega))) ((xcopy_o (by omega) (by omega)).trans (up2_row (by omega)))) ⟨4, Nat.le_refl _, by decide, (congrFun ((xcopy_o (by omega) (by omega)).trans (up2_row (by omega))) 1).trans hc⟩ (fun j hj => (congrFun ((xcopy_o (by omega) (by omega)).trans (up2_row (by omega))) j).trans (hrow j hj)) (fun a p => (xcopy_o (by omega) (by omega)).trans (up2_row (by omega)))
      | exact K _ _ ((BST.leaf hv hpn hBn).2 q9) hs hls ⟨4, Nat.le_refl _, by decide, hc⟩ hrow (fun _ _ => rfl)
    · skip
      refine x_return (pc := 20) dX7_seatFrom_20 rfl ⟨Nat.le_refl _, Nat.le_refl _⟩ ?_
      first
      | exact K _ _ ((BST.leaf hv hpn hBn).1 q9) ⟨(congrFun (xcopy_o (by omega) (by omega)) 3).trans up2_s, xcopy_1, fun i hi => by rw [show se + 5 + 1 = se + 6 from rfl, xcopy_i (by omega) hi, up2_row (by omega)]; exact hrow i (by omega)⟩ (hls.keep ((xcopy_o (by omega) (by omega)).trans (up2_row (by omega))) ((xcopy_o (by omega) (by omega)).trans (up2_row (by omega)))) ⟨4, Nat.le_refl _, by decide, (congrFun ((xcopy_o (by omega) (by omega)).trans (up2_row (by omega))) 1).trans hc⟩ (fun j hj => (congrFun ((xcopy_o (by omega) (by omega)).trans (up2_row (by omega))) j).trans (hrow j hj)) (fun a p => (xcopy_o (by omega) (by omega)).trans (up2_row (by omega)))
      | exact K _ _ ((BST.leaf hv hpn hBn).2 q9) hs hls ⟨4, Nat.le_refl _, by decide, hc⟩ hrow (fun _ _ => rfl)
  · skip
    refine x_iload_n (pc := 8) dX7_seatFrom_8 rfl rfl ?_
    refine x_bipush (pc := 9) (v := 6) dX7_seatFrom_9 (by decide) ?_
    refine x_icmp_lt_t (pc := 11) (tgt := 21) dX7_seatFrom_11 (by decide) (by decide) ?_
    refine x_iconst (pc := 21) (v := 0) dX7_seatFrom_21 (by decide) ?_
    refine x_istore (pc := 22) (lv' := [(0, .ref se), (1, .ref nw), (2, .int 4), (3, .int (nI u)), (4, .int (nI (csm V ch 4))), (5, .int 0)]) dX7_seatFrom_22 (by decide) rfl ?_
    have hb2 : 4 < V 8 0 := by omega
    exact l_seat_4 hG h hv hy hl hm hb2 hp hu K m 0 (by omega) I acc 4 (hB.congr (fun t ht => SPr_0 hv hl hb2 ht)) hs hls ⟨Nat.le_refl _, by decide, hc⟩ hrow (fun _ _ => rfl)

set_option maxHeartbeats 4000000 in
set_option maxRecDepth 100000 in
theorem l_seat_3 {T : xT} {n : Nat} {sh : Nat → Nat × Nat} {I : xI} {R : xR} {L : xL} {P : xPost} {lr nw im tr rd hu se ac M : Nat} (hG : GEO sh R lr nw im tr rd hu se ac M) {V : xV} {B : Nat} (h : FSC I nw V) (hv : VOK V B) (hy : VSY V) {l ch : Nat → Nat} {m u : Nat} (hl : LSO V l m) (hm : m ≤ 6) (hb : 3 < V 8 0) (hp : PVL V ch 3) (hu : USD l ch m 3 u) (K : ∀ (J : xI) (acc : xB), BST V (fun t => vl t 3 ≤ vl ch 3) acc → SEA J se (V 8 0) acc → bRow J (se + 1) m l → (∃ mm, 3 ≤ mm ∧ mm ≤ 6 ∧ J (se + 3) 1 = nI mm) → (∀ j, j < 3 → J (se + 4) j = nI (ch j)) → seP se I J → P (n, sh, 0, 0) J R L none)  : ∀ (w i : Nat), i + w = m → ∀ (J : xI) (acc : xB) (mm : Nat), BST V (SPr ch 3 (bnd l m i)) acc → SEA J se (V 8 0) acc → bRow J (se + 1) m l → (3 ≤ mm ∧ mm ≤ 6 ∧ J (se + 3) 1 = nI mm) → (∀ j, j < 3 → J (se + 4) j = nI (ch j)) → seP se I J → X T zX7_seatFrom 6 0 0 P 24 [(0, .ref se), (1, .ref nw), (2, .int 3), (3, .int (nI u)), (4, .int (nI (csm V ch 3))), (5, .int (nI i))] [] (n, sh, 0, 0) (J) R L := by
  obtain ⟨v6, v12, v10, vb, vf, vw, vm, vta, vte, vod, vrg, vdi⟩ := id hv
  have e1 := hG.g_e_nw
  have e2 := hG.g_e_se
  intro w
  induction w with
  | zero =>
    intro i hw J acc mm hB hs hlj hmm hrj fj
    have hz : i = m := by omega
    refine x_iload (pc := 24) dX7_seatFrom_24 rfl ?_
    refine x_aload_n (pc := 26) dX7_seatFrom_26 rfl rfl ?_
    refine x_getr (pc := 27) dX7_seatFrom_27 kf_RX7_14 hG.g_se rfl hG.g_se0 ?_
    refine x_get (pc := 30) dX7_seatFrom_30 kf_RX7_53 hG.g_stools.1 rfl ?_
    rw [hlj.1]
    refine x_icmpn_ge_t (pc := 33) (tgt := 123) (a := i) (b := m) dX7_seatFrom_33 (by decide) (by omega) (by omega) (by omega) ?_
    refine x_return (pc := 123) dX7_seatFrom_123 rfl ⟨Nat.le_refl _, Nat.le_refl _⟩ ?_
    rw [hz] at hB
    exact K J acc (hB.congr (fun t ht => SPr_m hv hb ht)) hs hlj ⟨mm, hmm⟩ hrj fj
  | succ w ih =>
    intro i hw J acc mm hB hs hlj hmm hrj fj
    have hi : i < m := by omega
    refine x_iload (pc := 24) dX7_seatFrom_24 rfl ?_
    refine x_aload_n (pc := 26) dX7_seatFrom_26 rfl rfl ?_
    refine x_getr (pc := 27) dX7_seatFrom_27 kf_RX7_14 hG.g_se rfl hG.g_se0 ?_
    refine x_get (pc := 30) dX7_seatFrom_30 kf_RX7_53 hG.g_stools.1 rfl ?_
    rw [hlj.1]
    refine x_icmpn_ge_f (pc := 33) (tgt := 123) (a := i) (b := m) dX7_seatFrom_33 (by decide) (by omega) (by omega) (by omega) ?_
    refine x_aload_n (pc := 36) dX7_seatFrom_36 rfl rfl ?_
    refine x_getr (pc := 37) dX7_seatFrom_37 kf_RX7_14 hG.g_se rfl hG.g_se0 ?_
    refine x_iload (pc := 40) dX7_seatFrom_40 rfl ?_
    refine x_callV (pc := 42) (As := [.int _]) dX7_seatFrom_42 km_X5_at kv_X5_at kl_RX7_55 hG.g_stools.1 rfl rfl (by decide) ⟨Nat.le_refl _, Nat.le_refl _⟩ rfl (Nat.le_of_ble_eq_true rfl) (Nat.le_of_ble_eq_true rfl) (c_at hG.g_stools (⟨rfl, rfl, ?_⟩))
    rw [hlj.1, rAt_in (m := m) hi hm (by decide), show J (se + 2) i = nI (l i) from hlj.2 i hi]
    have li := hl.lt hv hi
    refine x_istore (pc := 45) (lv' := [(0, .ref se), (1, .ref nw), (2, .int 3), (3, .int (nI u)), (4, .int (nI (csm V ch 3))), (5, .int (nI i)), (6, .int (nI (l i)))]) dX7_seatFrom_45 (by decide) rfl ?_
    refine x_iload_n (pc := 47) dX7_seatFrom_47 rfl rfl ?_
    refine x_iload (pc := 48) dX7_seatFrom_48 rfl ?_
    refine x_iushr (pc := 50) dX7_seatFrom_50 ?_
    refine x_iconst (pc := 51) (v := 1) dX7_seatFrom_51 (by decide) ?_
    refine x_iand (pc := 52) dX7_seatFrom_52 ?_
    rw [bget_c u hu.1 i (by omega)]
    have hbg := @bget_lt u i
    refine x_ifn_ne (pc := 53) (tgt := 117) (a := (bget u i)) dX7_seatFrom_53 (by decide) (by omega) (fun c53 => ?_) (fun c53 => ?_)
    · skip
      refine x_iinc (pc := 117) (v := nI (i + 1)) (lv' := [(0, .ref se), (1, .ref nw), (2, .int 3), (3, .int (nI u)), (4, .int (nI (csm V ch 3))), (5, .int (nI (i + 1))), (6, .int (nI (l i)))]) dX7_seatFrom_117 rfl (nI_1 _) (by decide) rfl ?_
      refine x_goto (pc := 120) (tgt := 24) dX7_seatFrom_120 (by decide) ?_
      first
      | exact X.keep [0, 1, 2, 3, 4, 5] rfl (ih (i + 1) (by omega) J acc mm (SKIP hv hl hi hb hp hB (fun t ht hpre e => by obtain ⟨j, hj, ej⟩ := (hu.2 i hi).mp (by omega); exact ht.2.1 j 3 (by omega) hb ((hpre j hj).trans (ej.trans e.symm)))) hs hlj hmm hrj fj)
      | exact X.keep [0, 1, 2, 3, 4, 5] rfl (ih (i + 1) (by omega) J acc mm (SKIP hv hl hi hb hp hB (fun t ht hpre e => by obtain ⟨j, hj, ej, ek⟩ := hby; exact ht.2.2 j 3 (by omega) hb ej (by rw [hpre j hj, e]; exact ek))) hs hlj hmm hrj fj)
      | (obtain ⟨mm3, m31, m32, m33⟩ := m3
         exact X.keep [0, 1, 2, 3, 4, 5] rfl (ih (i + 1) (by omega) J3 acc3 mm3 (b3.congr (fun t ht => SPr_out hv hl hi hb ht)) s3 l3 ⟨by omega, m32, m33⟩ (fun j hj => (r3 j (by omega)).trans (congrArg nI (chP_lo hj))) (fun a p => (f3 a p).trans ((g2 a (by omega) (by omega)).trans (fj a p)))))
    · skip
      refine x_aload_n (pc := 56) dX7_seatFrom_56 rfl rfl ?_
      refine x_aload_n (pc := 57) dX7_seatFrom_57 rfl rfl ?_
      refine x_iload_n (pc := 58) dX7_seatFrom_58 rfl rfl ?_
      refine x_iload (pc := 59) dX7_seatFrom_59 rfl ?_
      refine x_callV (pc := 61) (As := [.ref _, .int _, .int _]) dX7_seatFrom_61 km_X7_isByEnemy kv_X7_isByEnemy kl_RX7_59 hG.g_se rfl rfl (by decide) ⟨Nat.le_refl _, Nat.le_refl _⟩ rfl (Nat.le_of_ble_eq_true rfl) (Nat.le_of_ble_eq_true rfl) (c_isByEnemy (bi := 3) (ch := ch) (mm := mm) hG (h.keep (fun a p1 p2 => fj a (by omega))) hv (by omega) li (fun j hj => PVL.lt hv hp j hj) hmm hrj (fun hby => ⟨rfl, rfl, ?_⟩) (fun hny => ⟨rfl, rfl, ?_⟩))
      · skip
        refine x_if_eq_f (pc := 64) (tgt := 70) dX7_seatFrom_64 (by decide) (by decide) ?_
        refine x_goto (pc := 67) (tgt := 117) dX7_seatFrom_67 (by decide) ?_
        refine x_iinc (pc := 117) (v := nI (i + 1)) (lv' := [(0, .ref se), (1, .ref nw), (2, .int 3), (3, .int (nI u)), (4, .int (nI (csm V ch 3))), (5, .int (nI (i + 1))), (6, .int (nI (l i)))]) dX7_seatFrom_117 rfl (nI_1 _) (by decide) rfl ?_
        refine x_goto (pc := 120) (tgt := 24) dX7_seatFrom_120 (by decide) ?_
        first
        | exact X.keep [0, 1, 2, 3, 4, 5] rfl (ih (i + 1) (by omega) J acc mm (SKIP hv hl hi hb hp hB (fun t ht hpre e => by obtain ⟨j, hj, ej⟩ := (hu.2 i hi).mp (by omega); exact ht.2.1 j 3 (by omega) hb ((hpre j hj).trans (ej.trans e.symm)))) hs hlj hmm hrj fj)
        | exact X.keep [0, 1, 2, 3, 4, 5] rfl (ih (i + 1) (by omega) J acc mm (SKIP hv hl hi hb hp hB (fun t ht hpre e => by obtain ⟨j, hj, ej, ek⟩ := hby; exact ht.2.2 j 3 (by omega) hb ej (by rw [hpre j hj, e]; exact ek))) hs hlj hmm hrj fj)
        | (obtain ⟨mm3, m31, m32, m33⟩ := m3
           exact X.keep [0, 1, 2, 3, 4, 5] rfl (ih (i + 1) (by omega) J3 acc3 mm3 (b3.congr (fun t ht => SPr_out hv hl hi hb ht)) s3 l3 ⟨by omega, m32, m33⟩ (fun j hj => (r3 j (by omega)).trans (congrArg nI (chP_lo hj))) (fun a p => (f3 a p).trans ((g2 a (by omega) (by omega)).trans (fj a p)))))
      · skip
        refine x_if_eq_t (pc := 64) (tgt := 70) dX7_seatFrom_64 (by decide) (by decide) ?_
        refine x_aload_n (pc := 70) dX7_seatFrom_70 rfl rfl ?_
        refine x_getr (pc := 71) dX7_seatFrom_71 kf_RX7_20 hG.g_se rfl hG.g_se1 ?_
        refine x_iload_n (pc := 74) dX7_seatFrom_74 rfl rfl ?_
        refine x_put (pc := 75) dX7_seatFrom_75 kf_RX7_53 hG.g_chosen.1 rfl (Or.inl kb_5_1) ?_
        refine x_aload_n (pc := 78) dX7_seatFrom_78 rfl rfl ?_
        refine x_getr (pc := 79) dX7_seatFrom_79 kf_RX7_20 hG.g_se rfl hG.g_se1 ?_
        refine x_iload (pc := 82) dX7_seatFrom_82 rfl ?_
        refine x_callV (pc := 84) (As := [.int _]) dX7_seatFrom_84 km_X5_add kv_X5_add kl_RX7_39 hG.g_chosen.1 rfl rfl (by decide) ⟨Nat.le_refl _, Nat.le_refl _⟩ rfl (Nat.le_of_ble_eq_true rfl) (Nat.le_of_ble_eq_true rfl) (c_add (x := nI (l i)) (m := 3) hG.g_chosen up2_s (by decide) (⟨rfl, rfl, ?_⟩))
        refine x_aload_n (pc := 87) dX7_seatFrom_87 rfl rfl ?_
        refine x_aload_n (pc := 88) dX7_seatFrom_88 rfl rfl ?_
        refine x_iload_n (pc := 89) dX7_seatFrom_89 rfl rfl ?_
        refine x_iconst (pc := 90) (v := 1) dX7_seatFrom_90 (by decide) ?_
        refine x_iadd (pc := 91) dX7_seatFrom_91 ?_
        rw [show (3 : Int32) + 1 = 4 from rfl]
        refine x_iload_n (pc := 92) dX7_seatFrom_92 rfl rfl ?_
        refine x_iconst (pc := 93) (v := 1) dX7_seatFrom_93 (by decide) ?_
        refine x_iload (pc := 94) dX7_seatFrom_94 rfl ?_
        refine x_ishl (pc := 96) dX7_seatFrom_96 ?_
        refine x_ior (pc := 97) dX7_seatFrom_97 ?_
        rw [bset_m1 u hu.1 i (by omega)]
        refine x_iload (pc := 98) dX7_seatFrom_98 rfl ?_
        refine x_aload_n (pc := 100) dX7_seatFrom_100 rfl rfl ?_
        refine x_getr (pc := 101) dX7_seatFrom_101 kf_RX7_63 hG.g_nw.1 rfl hG.g_nw.2.2.2.2.2.1 ?_
        refine x_iload_n (pc := 104) dX7_seatFrom_104 rfl rfl ?_
        refine x_callV (pc := 105) (As := [.int _]) dX7_seatFrom_105 km_X5_at kv_X5_at kl_RX7_55 hG.g_nw.2.2.2.2.2.2.2.2.2.2.2.2.2.1.1 rfl rfl (by decide) ⟨Nat.le_refl _, Nat.le_refl _⟩ rfl (Nat.le_of_ble_eq_true rfl) (Nat.le_of_ble_eq_true rfl) (c_at (hG.g_nw.2.2.2.2.2.2.2.2.2.2.2.2.2.1) (⟨rfl, rfl, ?_⟩))
        rw [up2_row (show nw + 5 ≠ se + 3 by omega), up2_row (show nw + 5 ≠ se + 4 by omega), up2_row (show nw + 5 ≠ se + 3 by omega), up2_row (show nw + 6 ≠ se + 3 by omega), up2_row (show nw + 6 ≠ se + 4 by omega), up2_row (show nw + 6 ≠ se + 3 by omega), fj (nw + 5) (by omega), fj (nw + 6) (by omega), show I (nw + 5) 1 = nI (V 8 0) from (h.row 2 (by decide)).1, show rAt (nI (V 8 0)) 6 (I (nw + 6)) 3 = I (nw + 6) 3 from rAt_in (m := V 8 0) (k := 3) (by omega) v6 (by decide), show I (nw + 6) 3 = nI (V 2 3) from (h.row 2 (by decide)).2 3 (show 3 < V 8 0 by omega)]
        have cb := (vb 3 (by omega)).2.2.1
        refine x_iload (pc := 108) dX7_seatFrom_108 rfl ?_
        refine x_callSN (pc := 110) (As := [.int _, .int _]) dX7_seatFrom_110 km_X9_roundOf ks_X9_roundOf kn_RX7_66 rfl (by decide) ⟨Nat.le_refl _, Nat.le_refl _⟩ rfl (Nat.le_of_ble_eq_true rfl) (Nat.le_of_ble_eq_true rfl) (c_roundOf cb li (⟨rfl, rfl, ?_⟩))
        refine x_iaddn (pc := 113) (a := (csm V ch 3)) (b := (rnd (V 2 3) (l i))) dX7_seatFrom_113 ?_
        have g2 : ∀ a, a ≠ se + 3 → a ≠ se + 4 → (up2 (up2 (up2 J (se + 3) 1 3) (se + 4) 3 (nI (l i))) (se + 3) 1 (nI (3 + 1))) a = J a := fun a p q => (up2_row p).trans ((up2_row q).trans (up2_row p))
        have hno1 : ∀ j, j < 3 → ¬ ch j = l i := fun j hj e => by have := (hu.2 i hi).mpr ⟨j, hj, e⟩; omega
        have hp2 := PVL.chP hl hi hp hno1 hny
        have hr2 : ∀ j, j < 3 + 1 → (up2 (up2 (up2 J (se + 3) 1 3) (se + 4) 3 (nI (l i))) (se + 3) 1 (nI (3 + 1))) (se + 4) j = nI (chP ch 3 (l i) j) := fun j hj => by
          rw [up2_row (show se + 4 ≠ se + 3 by omega)]
          rcases Nat.lt_succ_iff_lt_or_eq.mp hj with z | z
          · rw [up2_k (by omega), up2_row (show se + 4 ≠ se + 3 by omega), chP_lo z]
            exact hrj j z
          · rw [z, up2_s, chP_b]
        rw [show csm V ch 3 + rnd (V 2 3) (l i) = csm V (chP ch 3 (l i)) (3 + 1) from csm_chP.symm]
        refine x_callS (pc := 114) (As := [.ref _, .ref _, .int _, .int _, .int _]) dX7_seatFrom_114 km_X7_seatFrom ks_X7_seatFrom kl_RX7_42 rfl (by decide) ⟨Nat.le_refl _, Nat.le_refl _⟩ rfl (Nat.le_of_ble_eq_true rfl) (Nat.le_of_ble_eq_true rfl) (c_seatFrom_4 (ch := chP ch 3 (l i)) (acc := acc) hG (h.keep (fun a p1 p2 => (g2 a (by omega) (by omega)).trans (fj a (by omega)))) hv hy hl hm (hlj.keep (g2 _ (by omega) (by omega)) (g2 _ (by omega) (by omega))) (show 4 ≤ V 8 0 by omega) hp2 (hu.put hm hi (fun j hj e => hl.inj hj hi e)) up2_s hr2 (hs.keep (congrFun (g2 _ (by omega) (by omega)) 3) (g2 _ (by omega) (by omega)) (g2 _ (by omega) (by omega))) (hB.congr (fun t ht => SPr_in (if_pos hi))) (fun J3 acc3 b3 s3 l3 m3 r3 f3 => ⟨rfl, rfl, ?_⟩))
        refine x_iinc (pc := 117) (v := nI (i + 1)) (lv' := [(0, .ref se), (1, .ref nw), (2, .int 3), (3, .int (nI u)), (4, .int (nI (csm V ch 3))), (5, .int (nI (i + 1))), (6, .int (nI (l i)))]) dX7_seatFrom_117 rfl (nI_1 _) (by decide) rfl ?_
        refine x_goto (pc := 120) (tgt := 24) dX7_seatFrom_120 (by decide) ?_
        first
        | exact X.keep [0, 1, 2, 3, 4, 5] rfl (ih (i + 1) (by omega) J acc mm (SKIP hv hl hi hb hp hB (fun t ht hpre e => by obtain ⟨j, hj, ej⟩ := (hu.2 i hi).mp (by omega); exact ht.2.1 j 3 (by omega) hb ((hpre j hj).trans (ej.trans e.symm)))) hs hlj hmm hrj fj)
        | exact X.keep [0, 1, 2, 3, 4, 5] rfl (ih (i + 1) (by omega) J acc mm (SKIP hv hl hi hb hp hB (fun t ht hpre e => by obtain ⟨j, hj, ej, ek⟩ := hby; exact ht.2.2 j 3 (by omega) hb ej (by rw [hpre j hj, e]; exact ek))) hs hlj hmm hrj fj)
        | (obtain ⟨mm3, m31, m32, m33⟩ := m3
           exact X.keep [0, 1, 2, 3, 4, 5] rfl (ih (i + 1) (by omega) J3 acc3 mm3 (b3.congr (fun t ht => SPr_out hv hl hi hb ht)) s3 l3 ⟨by omega, m32, m33⟩ (fun j hj => (r3 j (by omega)).trans (congrArg nI (chP_lo hj))) (fun a p => (f3 a p).trans ((g2 a (by omega) (by omega)).trans (fj a p)))))

set_option maxHeartbeats 4000000 in
set_option maxRecDepth 100000 in
theorem c_seatFrom_3 {T : xT} {n : Nat} {sh : Nat → Nat × Nat} {I : xI} {R : xR} {L : xL} {P : xPost} {lr nw im tr rd hu se ac M : Nat} (hG : GEO sh R lr nw im tr rd hu se ac M) {V : xV} {B : Nat} (h : FSC I nw V) (hv : VOK V B) (hy : VSY V) {l ch : Nat → Nat} {m u : Nat} {acc : xB} (hl : LSO V l m) (hm : m ≤ 6) (hls : bRow I (se + 1) m l) (hb : 3 ≤ V 8 0) (hp : PVL V ch 3) (hu : USD l ch m 3 u) (hc : I (se + 3) 1 = nI 3) (hrow : ∀ j, j < 3 → I (se + 4) j = nI (ch j)) (hs : SEA I se (V 8 0) acc) (hB : BST V (fun t => vl t 3 < vl ch 3) acc) (K : ∀ (J : xI) (acc : xB), BST V (fun t => vl t 3 ≤ vl ch 3) acc → SEA J se (V 8 0) acc → bRow J (se + 1) m l → (∃ mm, 3 ≤ mm ∧ mm ≤ 6 ∧ J (se + 3) 1 = nI mm) → (∀ j, j < 3 → J (se + 4) j = nI (ch j)) → seP se I J → P (n, sh, 0, 0) J R L none)  : XM T zX7_seatFrom 6 [.ref se, .ref nw, .int 3, .int (nI u), .int (nI (csm V ch 3))] n sh I R L P := by
  obtain ⟨v6, v12, v10, vb, vf, vw, vm, vta, vte, vod, vrg, vdi⟩ := id hv
  have e1 := hG.g_e_nw
  have e2 := hG.g_e_se
  refine x_iload_n (pc := 0) dX7_seatFrom_0 rfl rfl ?_
  refine x_aload_n (pc := 1) dX7_seatFrom_1 rfl rfl ?_
  refine x_callV (pc := 2) (As := []) dX7_seatFrom_2 km_X6_size kv_X6_size kl_RX7_46 hG.g_nw.1 rfl rfl (by decide) ⟨Nat.le_refl _, Nat.le_refl _⟩ rfl (Nat.le_of_ble_eq_true rfl) (Nat.le_of_ble_eq_true rfl) (c_size hG.g_nw (h.row 2 (by decide)) v6 (⟨rfl, rfl, ?_⟩))
  refine x_icmpn_ge (pc := 5) (tgt := 14) (a := 3) (b := (V 8 0)) dX7_seatFrom_5 (by decide) (by decide) (by omega) (fun c5 => ?_) (fun c5 => ?_)
  · skip
    have hbn : V 8 0 = 3 := by omega
    have hpn : PVL V ch (V 8 0) := by rw [hbn]; exact hp
    have hBn : BST V (fun t => vl t (V 8 0) < vl ch (V 8 0)) acc := by
      have hB2 := hB
      rw [show (fun t : Nat → Nat => vl t 3 < vl ch 3) = (fun t => vl t (V 8 0) < vl ch (V 8 0)) from by rw [hbn]] at hB2
      exact hB2
    rw [show (fun t : Nat → Nat => vl t 3 ≤ vl ch 3) = (fun t => vl t (V 8 0) ≤ vl ch (V 8 0)) from by rw [hbn]] at K
    have hcs := csm_le (V := V) (t := ch) (V 8 0) (fun j hj => ⟨(vb j hj).2.2.1, PVL.lt hv hpn j hj⟩)
    rw [show csm V ch 3 = csm V ch (V 8 0) from by rw [hbn]]
    refine x_aload_n (pc := 14) dX7_seatFrom_14 rfl rfl ?_
    refine x_iload (pc := 15) dX7_seatFrom_15 rfl ?_
    refine x_callV (pc := 17) (As := [.int _]) dX7_seatFrom_17 km_X7_keep kv_X7_keep kl_RX7_50 hG.g_se rfl rfl (by decide) ⟨Nat.le_refl _, Nat.le_refl _⟩ rfl (Nat.le_of_ble_eq_true rfl) (Nat.le_of_ble_eq_true rfl) (c_seKeep (nb := V 8 0) (ch := ch) hG v6 (by omega) hs (SEA.lt hv hB) (by rw [hc, hbn]) (fun q9 => ⟨rfl, rfl, ?_⟩) (fun q9 => ⟨rfl, rfl, ?_⟩))
    · skip
      refine x_return (pc := 20) dX7_seatFrom_20 rfl ⟨Nat.le_refl _, Nat.le_refl _⟩ ?_
      first
      | exact K _ _ ((BST.leaf hv hpn hBn).1 q9) ⟨(congrFun (xcopy_o (by omega) (by omega)) 3).trans up2_s, xcopy_1, fun i hi => by rw [show se + 5 + 1 = se + 6 from rfl, xcopy_i (by omega) hi, up2_row (by omega)]; exact hrow i (by omega)⟩ (hls.keep ((xcopy_o (by omega) (by omega)).trans (up2_row (by omega))) ((xcopy_o (by omega) (by omega)).trans (up2_row (by omega)))) ⟨3, Nat.le_refl _, by decide, (congrFun ((xcopy_o (by omega) (by omega)).trans (up2_row (by omega))) 1).trans hc⟩ (fun j hj => (congrFun ((xcopy_o (by omega) (by omega)).trans (up2_row (by omega))) j).trans (hrow j hj)) (fun a p => (xcopy_o (by omega) (by omega)).trans (up2_row (by omega)))
      | exact K _ _ ((BST.leaf hv hpn hBn).2 q9) hs hls ⟨3, Nat.le_refl _, by decide, hc⟩ hrow (fun _ _ => rfl)
    · skip
      refine x_return (pc := 20) dX7_seatFrom_20 rfl ⟨Nat.le_refl _, Nat.le_refl _⟩ ?_
      first
      | exact K _ _ ((BST.leaf hv hpn hBn).1 q9) ⟨(congrFun (xcopy_o (by omega) (by omega)) 3).trans up2_s, xcopy_1, fun i hi => by rw [show se + 5 + 1 = se + 6 from rfl, xcopy_i (by omega) hi, up2_row (by omega)]; exact hrow i (by omega)⟩ (hls.keep ((xcopy_o (by omega) (by omega)).trans (up2_row (by omega))) ((xcopy_o (by omega) (by omega)).trans (up2_row (by omega)))) ⟨3, Nat.le_refl _, by decide, (congrFun ((xcopy_o (by omega) (by omega)).trans (up2_row (by omega))) 1).trans hc⟩ (fun j hj => (congrFun ((xcopy_o (by omega) (by omega)).trans (up2_row (by omega))) j).trans (hrow j hj)) (fun a p => (xcopy_o (by omega) (by omega)).trans (up2_row (by omega)))
      | exact K _ _ ((BST.leaf hv hpn hBn).2 q9) hs hls ⟨3, Nat.le_refl _, by decide, hc⟩ hrow (fun _ _ => rfl)
  · skip
    refine x_iload_n (pc := 8) dX7_seatFrom_8 rfl rfl ?_
    refine x_bipush (pc := 9) (v := 6) dX7_seatFrom_9 (by decide) ?_
    refine x_icmp_lt_t (pc := 11) (tgt := 21) dX7_seatFrom_11 (by decide) (by decide) ?_
    refine x_iconst (pc := 21) (v := 0) dX7_seatFrom_21 (by decide) ?_
    refine x_istore (pc := 22) (lv' := [(0, .ref se), (1, .ref nw), (2, .int 3), (3, .int (nI u)), (4, .int (nI (csm V ch 3))), (5, .int 0)]) dX7_seatFrom_22 (by decide) rfl ?_
    have hb2 : 3 < V 8 0 := by omega
    exact l_seat_3 hG h hv hy hl hm hb2 hp hu K m 0 (by omega) I acc 3 (hB.congr (fun t ht => SPr_0 hv hl hb2 ht)) hs hls ⟨Nat.le_refl _, by decide, hc⟩ hrow (fun _ _ => rfl)

set_option maxHeartbeats 4000000 in
set_option maxRecDepth 100000 in
theorem l_seat_2 {T : xT} {n : Nat} {sh : Nat → Nat × Nat} {I : xI} {R : xR} {L : xL} {P : xPost} {lr nw im tr rd hu se ac M : Nat} (hG : GEO sh R lr nw im tr rd hu se ac M) {V : xV} {B : Nat} (h : FSC I nw V) (hv : VOK V B) (hy : VSY V) {l ch : Nat → Nat} {m u : Nat} (hl : LSO V l m) (hm : m ≤ 6) (hb : 2 < V 8 0) (hp : PVL V ch 2) (hu : USD l ch m 2 u) (K : ∀ (J : xI) (acc : xB), BST V (fun t => vl t 2 ≤ vl ch 2) acc → SEA J se (V 8 0) acc → bRow J (se + 1) m l → (∃ mm, 2 ≤ mm ∧ mm ≤ 6 ∧ J (se + 3) 1 = nI mm) → (∀ j, j < 2 → J (se + 4) j = nI (ch j)) → seP se I J → P (n, sh, 0, 0) J R L none)  : ∀ (w i : Nat), i + w = m → ∀ (J : xI) (acc : xB) (mm : Nat), BST V (SPr ch 2 (bnd l m i)) acc → SEA J se (V 8 0) acc → bRow J (se + 1) m l → (2 ≤ mm ∧ mm ≤ 6 ∧ J (se + 3) 1 = nI mm) → (∀ j, j < 2 → J (se + 4) j = nI (ch j)) → seP se I J → X T zX7_seatFrom 7 0 0 P 24 [(0, .ref se), (1, .ref nw), (2, .int 2), (3, .int (nI u)), (4, .int (nI (csm V ch 2))), (5, .int (nI i))] [] (n, sh, 0, 0) (J) R L := by
  obtain ⟨v6, v12, v10, vb, vf, vw, vm, vta, vte, vod, vrg, vdi⟩ := id hv
  have e1 := hG.g_e_nw
  have e2 := hG.g_e_se
  intro w
  induction w with
  | zero =>
    intro i hw J acc mm hB hs hlj hmm hrj fj
    have hz : i = m := by omega
    refine x_iload (pc := 24) dX7_seatFrom_24 rfl ?_
    refine x_aload_n (pc := 26) dX7_seatFrom_26 rfl rfl ?_
    refine x_getr (pc := 27) dX7_seatFrom_27 kf_RX7_14 hG.g_se rfl hG.g_se0 ?_
    refine x_get (pc := 30) dX7_seatFrom_30 kf_RX7_53 hG.g_stools.1 rfl ?_
    rw [hlj.1]
    refine x_icmpn_ge_t (pc := 33) (tgt := 123) (a := i) (b := m) dX7_seatFrom_33 (by decide) (by omega) (by omega) (by omega) ?_
    refine x_return (pc := 123) dX7_seatFrom_123 rfl ⟨Nat.le_refl _, Nat.le_refl _⟩ ?_
    rw [hz] at hB
    exact K J acc (hB.congr (fun t ht => SPr_m hv hb ht)) hs hlj ⟨mm, hmm⟩ hrj fj
  | succ w ih =>
    intro i hw J acc mm hB hs hlj hmm hrj fj
    have hi : i < m := by omega
    refine x_iload (pc := 24) dX7_seatFrom_24 rfl ?_
    refine x_aload_n (pc := 26) dX7_seatFrom_26 rfl rfl ?_
    refine x_getr (pc := 27) dX7_seatFrom_27 kf_RX7_14 hG.g_se rfl hG.g_se0 ?_
    refine x_get (pc := 30) dX7_seatFrom_30 kf_RX7_53 hG.g_stools.1 rfl ?_
    rw [hlj.1]
    refine x_icmpn_ge_f (pc := 33) (tgt := 123) (a := i) (b := m) dX7_seatFrom_33 (by decide) (by omega) (by omega) (by omega) ?_
    refine x_aload_n (pc := 36) dX7_seatFrom_36 rfl rfl ?_
    refine x_getr (pc := 37) dX7_seatFrom_37 kf_RX7_14 hG.g_se rfl hG.g_se0 ?_
    refine x_iload (pc := 40) dX7_seatFrom_40 rfl ?_
    refine x_callV (pc := 42) (As := [.int _]) dX7_seatFrom_42 km_X5_at kv_X5_at kl_RX7_55 hG.g_stools.1 rfl rfl (by decide) ⟨Nat.le_refl _, Nat.le_refl _⟩ rfl (Nat.le_of_ble_eq_true rfl) (Nat.le_of_ble_eq_true rfl) (c_at hG.g_stools (⟨rfl, rfl, ?_⟩))
    rw [hlj.1, rAt_in (m := m) hi hm (by decide), show J (se + 2) i = nI (l i) from hlj.2 i hi]
    have li := hl.lt hv hi
    refine x_istore (pc := 45) (lv' := [(0, .ref se), (1, .ref nw), (2, .int 2), (3, .int (nI u)), (4, .int (nI (csm V ch 2))), (5, .int (nI i)), (6, .int (nI (l i)))]) dX7_seatFrom_45 (by decide) rfl ?_
    refine x_iload_n (pc := 47) dX7_seatFrom_47 rfl rfl ?_
    refine x_iload (pc := 48) dX7_seatFrom_48 rfl ?_
    refine x_iushr (pc := 50) dX7_seatFrom_50 ?_
    refine x_iconst (pc := 51) (v := 1) dX7_seatFrom_51 (by decide) ?_
    refine x_iand (pc := 52) dX7_seatFrom_52 ?_
    rw [bget_c u hu.1 i (by omega)]
    have hbg := @bget_lt u i
    refine x_ifn_ne (pc := 53) (tgt := 117) (a := (bget u i)) dX7_seatFrom_53 (by decide) (by omega) (fun c53 => ?_) (fun c53 => ?_)
    · skip
      refine x_iinc (pc := 117) (v := nI (i + 1)) (lv' := [(0, .ref se), (1, .ref nw), (2, .int 2), (3, .int (nI u)), (4, .int (nI (csm V ch 2))), (5, .int (nI (i + 1))), (6, .int (nI (l i)))]) dX7_seatFrom_117 rfl (nI_1 _) (by decide) rfl ?_
      refine x_goto (pc := 120) (tgt := 24) dX7_seatFrom_120 (by decide) ?_
      first
      | exact X.keep [0, 1, 2, 3, 4, 5] rfl (ih (i + 1) (by omega) J acc mm (SKIP hv hl hi hb hp hB (fun t ht hpre e => by obtain ⟨j, hj, ej⟩ := (hu.2 i hi).mp (by omega); exact ht.2.1 j 2 (by omega) hb ((hpre j hj).trans (ej.trans e.symm)))) hs hlj hmm hrj fj)
      | exact X.keep [0, 1, 2, 3, 4, 5] rfl (ih (i + 1) (by omega) J acc mm (SKIP hv hl hi hb hp hB (fun t ht hpre e => by obtain ⟨j, hj, ej, ek⟩ := hby; exact ht.2.2 j 2 (by omega) hb ej (by rw [hpre j hj, e]; exact ek))) hs hlj hmm hrj fj)
      | (obtain ⟨mm3, m31, m32, m33⟩ := m3
         exact X.keep [0, 1, 2, 3, 4, 5] rfl (ih (i + 1) (by omega) J3 acc3 mm3 (b3.congr (fun t ht => SPr_out hv hl hi hb ht)) s3 l3 ⟨by omega, m32, m33⟩ (fun j hj => (r3 j (by omega)).trans (congrArg nI (chP_lo hj))) (fun a p => (f3 a p).trans ((g2 a (by omega) (by omega)).trans (fj a p)))))
    · skip
      refine x_aload_n (pc := 56) dX7_seatFrom_56 rfl rfl ?_
      refine x_aload_n (pc := 57) dX7_seatFrom_57 rfl rfl ?_
      refine x_iload_n (pc := 58) dX7_seatFrom_58 rfl rfl ?_
      refine x_iload (pc := 59) dX7_seatFrom_59 rfl ?_
      refine x_callV (pc := 61) (As := [.ref _, .int _, .int _]) dX7_seatFrom_61 km_X7_isByEnemy kv_X7_isByEnemy kl_RX7_59 hG.g_se rfl rfl (by decide) ⟨Nat.le_refl _, Nat.le_refl _⟩ rfl (Nat.le_of_ble_eq_true rfl) (Nat.le_of_ble_eq_true rfl) (c_isByEnemy (bi := 2) (ch := ch) (mm := mm) hG (h.keep (fun a p1 p2 => fj a (by omega))) hv (by omega) li (fun j hj => PVL.lt hv hp j hj) hmm hrj (fun hby => ⟨rfl, rfl, ?_⟩) (fun hny => ⟨rfl, rfl, ?_⟩))
      · skip
        refine x_if_eq_f (pc := 64) (tgt := 70) dX7_seatFrom_64 (by decide) (by decide) ?_
        refine x_goto (pc := 67) (tgt := 117) dX7_seatFrom_67 (by decide) ?_
        refine x_iinc (pc := 117) (v := nI (i + 1)) (lv' := [(0, .ref se), (1, .ref nw), (2, .int 2), (3, .int (nI u)), (4, .int (nI (csm V ch 2))), (5, .int (nI (i + 1))), (6, .int (nI (l i)))]) dX7_seatFrom_117 rfl (nI_1 _) (by decide) rfl ?_
        refine x_goto (pc := 120) (tgt := 24) dX7_seatFrom_120 (by decide) ?_
        first
        | exact X.keep [0, 1, 2, 3, 4, 5] rfl (ih (i + 1) (by omega) J acc mm (SKIP hv hl hi hb hp hB (fun t ht hpre e => by obtain ⟨j, hj, ej⟩ := (hu.2 i hi).mp (by omega); exact ht.2.1 j 2 (by omega) hb ((hpre j hj).trans (ej.trans e.symm)))) hs hlj hmm hrj fj)
        | exact X.keep [0, 1, 2, 3, 4, 5] rfl (ih (i + 1) (by omega) J acc mm (SKIP hv hl hi hb hp hB (fun t ht hpre e => by obtain ⟨j, hj, ej, ek⟩ := hby; exact ht.2.2 j 2 (by omega) hb ej (by rw [hpre j hj, e]; exact ek))) hs hlj hmm hrj fj)
        | (obtain ⟨mm3, m31, m32, m33⟩ := m3
           exact X.keep [0, 1, 2, 3, 4, 5] rfl (ih (i + 1) (by omega) J3 acc3 mm3 (b3.congr (fun t ht => SPr_out hv hl hi hb ht)) s3 l3 ⟨by omega, m32, m33⟩ (fun j hj => (r3 j (by omega)).trans (congrArg nI (chP_lo hj))) (fun a p => (f3 a p).trans ((g2 a (by omega) (by omega)).trans (fj a p)))))
      · skip
        refine x_if_eq_t (pc := 64) (tgt := 70) dX7_seatFrom_64 (by decide) (by decide) ?_
        refine x_aload_n (pc := 70) dX7_seatFrom_70 rfl rfl ?_
        refine x_getr (pc := 71) dX7_seatFrom_71 kf_RX7_20 hG.g_se rfl hG.g_se1 ?_
        refine x_iload_n (pc := 74) dX7_seatFrom_74 rfl rfl ?_
        refine x_put (pc := 75) dX7_seatFrom_75 kf_RX7_53 hG.g_chosen.1 rfl (Or.inl kb_5_1) ?_
        refine x_aload_n (pc := 78) dX7_seatFrom_78 rfl rfl ?_
        refine x_getr (pc := 79) dX7_seatFrom_79 kf_RX7_20 hG.g_se rfl hG.g_se1 ?_
        refine x_iload (pc := 82) dX7_seatFrom_82 rfl ?_
        refine x_callV (pc := 84) (As := [.int _]) dX7_seatFrom_84 km_X5_add kv_X5_add kl_RX7_39 hG.g_chosen.1 rfl rfl (by decide) ⟨Nat.le_refl _, Nat.le_refl _⟩ rfl (Nat.le_of_ble_eq_true rfl) (Nat.le_of_ble_eq_true rfl) (c_add (x := nI (l i)) (m := 2) hG.g_chosen up2_s (by decide) (⟨rfl, rfl, ?_⟩))
        refine x_aload_n (pc := 87) dX7_seatFrom_87 rfl rfl ?_
        refine x_aload_n (pc := 88) dX7_seatFrom_88 rfl rfl ?_
        refine x_iload_n (pc := 89) dX7_seatFrom_89 rfl rfl ?_
        refine x_iconst (pc := 90) (v := 1) dX7_seatFrom_90 (by decide) ?_
        refine x_iadd (pc := 91) dX7_seatFrom_91 ?_
        rw [show (2 : Int32) + 1 = 3 from rfl]
        refine x_iload_n (pc := 92) dX7_seatFrom_92 rfl rfl ?_
        refine x_iconst (pc := 93) (v := 1) dX7_seatFrom_93 (by decide) ?_
        refine x_iload (pc := 94) dX7_seatFrom_94 rfl ?_
        refine x_ishl (pc := 96) dX7_seatFrom_96 ?_
        refine x_ior (pc := 97) dX7_seatFrom_97 ?_
        rw [bset_m1 u hu.1 i (by omega)]
        refine x_iload (pc := 98) dX7_seatFrom_98 rfl ?_
        refine x_aload_n (pc := 100) dX7_seatFrom_100 rfl rfl ?_
        refine x_getr (pc := 101) dX7_seatFrom_101 kf_RX7_63 hG.g_nw.1 rfl hG.g_nw.2.2.2.2.2.1 ?_
        refine x_iload_n (pc := 104) dX7_seatFrom_104 rfl rfl ?_
        refine x_callV (pc := 105) (As := [.int _]) dX7_seatFrom_105 km_X5_at kv_X5_at kl_RX7_55 hG.g_nw.2.2.2.2.2.2.2.2.2.2.2.2.2.1.1 rfl rfl (by decide) ⟨Nat.le_refl _, Nat.le_refl _⟩ rfl (Nat.le_of_ble_eq_true rfl) (Nat.le_of_ble_eq_true rfl) (c_at (hG.g_nw.2.2.2.2.2.2.2.2.2.2.2.2.2.1) (⟨rfl, rfl, ?_⟩))
        rw [up2_row (show nw + 5 ≠ se + 3 by omega), up2_row (show nw + 5 ≠ se + 4 by omega), up2_row (show nw + 5 ≠ se + 3 by omega), up2_row (show nw + 6 ≠ se + 3 by omega), up2_row (show nw + 6 ≠ se + 4 by omega), up2_row (show nw + 6 ≠ se + 3 by omega), fj (nw + 5) (by omega), fj (nw + 6) (by omega), show I (nw + 5) 1 = nI (V 8 0) from (h.row 2 (by decide)).1, show rAt (nI (V 8 0)) 6 (I (nw + 6)) 2 = I (nw + 6) 2 from rAt_in (m := V 8 0) (k := 2) (by omega) v6 (by decide), show I (nw + 6) 2 = nI (V 2 2) from (h.row 2 (by decide)).2 2 (show 2 < V 8 0 by omega)]
        have cb := (vb 2 (by omega)).2.2.1
        refine x_iload (pc := 108) dX7_seatFrom_108 rfl ?_
        refine x_callSN (pc := 110) (As := [.int _, .int _]) dX7_seatFrom_110 km_X9_roundOf ks_X9_roundOf kn_RX7_66 rfl (by decide) ⟨Nat.le_refl _, Nat.le_refl _⟩ rfl (Nat.le_of_ble_eq_true rfl) (Nat.le_of_ble_eq_true rfl) (c_roundOf cb li (⟨rfl, rfl, ?_⟩))
        refine x_iaddn (pc := 113) (a := (csm V ch 2)) (b := (rnd (V 2 2) (l i))) dX7_seatFrom_113 ?_
        have g2 : ∀ a, a ≠ se + 3 → a ≠ se + 4 → (up2 (up2 (up2 J (se + 3) 1 2) (se + 4) 2 (nI (l i))) (se + 3) 1 (nI (2 + 1))) a = J a := fun a p q => (up2_row p).trans ((up2_row q).trans (up2_row p))
        have hno1 : ∀ j, j < 2 → ¬ ch j = l i := fun j hj e => by have := (hu.2 i hi).mpr ⟨j, hj, e⟩; omega
        have hp2 := PVL.chP hl hi hp hno1 hny
        have hr2 : ∀ j, j < 2 + 1 → (up2 (up2 (up2 J (se + 3) 1 2) (se + 4) 2 (nI (l i))) (se + 3) 1 (nI (2 + 1))) (se + 4) j = nI (chP ch 2 (l i) j) := fun j hj => by
          rw [up2_row (show se + 4 ≠ se + 3 by omega)]
          rcases Nat.lt_succ_iff_lt_or_eq.mp hj with z | z
          · rw [up2_k (by omega), up2_row (show se + 4 ≠ se + 3 by omega), chP_lo z]
            exact hrj j z
          · rw [z, up2_s, chP_b]
        rw [show csm V ch 2 + rnd (V 2 2) (l i) = csm V (chP ch 2 (l i)) (2 + 1) from csm_chP.symm]
        refine x_callS (pc := 114) (As := [.ref _, .ref _, .int _, .int _, .int _]) dX7_seatFrom_114 km_X7_seatFrom ks_X7_seatFrom kl_RX7_42 rfl (by decide) ⟨Nat.le_refl _, Nat.le_refl _⟩ rfl (Nat.le_of_ble_eq_true rfl) (Nat.le_of_ble_eq_true rfl) (c_seatFrom_3 (ch := chP ch 2 (l i)) (acc := acc) hG (h.keep (fun a p1 p2 => (g2 a (by omega) (by omega)).trans (fj a (by omega)))) hv hy hl hm (hlj.keep (g2 _ (by omega) (by omega)) (g2 _ (by omega) (by omega))) (show 3 ≤ V 8 0 by omega) hp2 (hu.put hm hi (fun j hj e => hl.inj hj hi e)) up2_s hr2 (hs.keep (congrFun (g2 _ (by omega) (by omega)) 3) (g2 _ (by omega) (by omega)) (g2 _ (by omega) (by omega))) (hB.congr (fun t ht => SPr_in (if_pos hi))) (fun J3 acc3 b3 s3 l3 m3 r3 f3 => ⟨rfl, rfl, ?_⟩))
        refine x_iinc (pc := 117) (v := nI (i + 1)) (lv' := [(0, .ref se), (1, .ref nw), (2, .int 2), (3, .int (nI u)), (4, .int (nI (csm V ch 2))), (5, .int (nI (i + 1))), (6, .int (nI (l i)))]) dX7_seatFrom_117 rfl (nI_1 _) (by decide) rfl ?_
        refine x_goto (pc := 120) (tgt := 24) dX7_seatFrom_120 (by decide) ?_
        first
        | exact X.keep [0, 1, 2, 3, 4, 5] rfl (ih (i + 1) (by omega) J acc mm (SKIP hv hl hi hb hp hB (fun t ht hpre e => by obtain ⟨j, hj, ej⟩ := (hu.2 i hi).mp (by omega); exact ht.2.1 j 2 (by omega) hb ((hpre j hj).trans (ej.trans e.symm)))) hs hlj hmm hrj fj)
        | exact X.keep [0, 1, 2, 3, 4, 5] rfl (ih (i + 1) (by omega) J acc mm (SKIP hv hl hi hb hp hB (fun t ht hpre e => by obtain ⟨j, hj, ej, ek⟩ := hby; exact ht.2.2 j 2 (by omega) hb ej (by rw [hpre j hj, e]; exact ek))) hs hlj hmm hrj fj)
        | (obtain ⟨mm3, m31, m32, m33⟩ := m3
           exact X.keep [0, 1, 2, 3, 4, 5] rfl (ih (i + 1) (by omega) J3 acc3 mm3 (b3.congr (fun t ht => SPr_out hv hl hi hb ht)) s3 l3 ⟨by omega, m32, m33⟩ (fun j hj => (r3 j (by omega)).trans (congrArg nI (chP_lo hj))) (fun a p => (f3 a p).trans ((g2 a (by omega) (by omega)).trans (fj a p)))))

set_option maxHeartbeats 4000000 in
set_option maxRecDepth 100000 in
theorem c_seatFrom_2 {T : xT} {n : Nat} {sh : Nat → Nat × Nat} {I : xI} {R : xR} {L : xL} {P : xPost} {lr nw im tr rd hu se ac M : Nat} (hG : GEO sh R lr nw im tr rd hu se ac M) {V : xV} {B : Nat} (h : FSC I nw V) (hv : VOK V B) (hy : VSY V) {l ch : Nat → Nat} {m u : Nat} {acc : xB} (hl : LSO V l m) (hm : m ≤ 6) (hls : bRow I (se + 1) m l) (hb : 2 ≤ V 8 0) (hp : PVL V ch 2) (hu : USD l ch m 2 u) (hc : I (se + 3) 1 = nI 2) (hrow : ∀ j, j < 2 → I (se + 4) j = nI (ch j)) (hs : SEA I se (V 8 0) acc) (hB : BST V (fun t => vl t 2 < vl ch 2) acc) (K : ∀ (J : xI) (acc : xB), BST V (fun t => vl t 2 ≤ vl ch 2) acc → SEA J se (V 8 0) acc → bRow J (se + 1) m l → (∃ mm, 2 ≤ mm ∧ mm ≤ 6 ∧ J (se + 3) 1 = nI mm) → (∀ j, j < 2 → J (se + 4) j = nI (ch j)) → seP se I J → P (n, sh, 0, 0) J R L none)  : XM T zX7_seatFrom 7 [.ref se, .ref nw, .int 2, .int (nI u), .int (nI (csm V ch 2))] n sh I R L P := by
  obtain ⟨v6, v12, v10, vb, vf, vw, vm, vta, vte, vod, vrg, vdi⟩ := id hv
  have e1 := hG.g_e_nw
  have e2 := hG.g_e_se
  refine x_iload_n (pc := 0) dX7_seatFrom_0 rfl rfl ?_
  refine x_aload_n (pc := 1) dX7_seatFrom_1 rfl rfl ?_
  refine x_callV (pc := 2) (As := []) dX7_seatFrom_2 km_X6_size kv_X6_size kl_RX7_46 hG.g_nw.1 rfl rfl (by decide) ⟨Nat.le_refl _, Nat.le_refl _⟩ rfl (Nat.le_of_ble_eq_true rfl) (Nat.le_of_ble_eq_true rfl) (c_size hG.g_nw (h.row 2 (by decide)) v6 (⟨rfl, rfl, ?_⟩))
  refine x_icmpn_ge (pc := 5) (tgt := 14) (a := 2) (b := (V 8 0)) dX7_seatFrom_5 (by decide) (by decide) (by omega) (fun c5 => ?_) (fun c5 => ?_)
  · skip
    have hbn : V 8 0 = 2 := by omega
    have hpn : PVL V ch (V 8 0) := by rw [hbn]; exact hp
    have hBn : BST V (fun t => vl t (V 8 0) < vl ch (V 8 0)) acc := by
      have hB2 := hB
      rw [show (fun t : Nat → Nat => vl t 2 < vl ch 2) = (fun t => vl t (V 8 0) < vl ch (V 8 0)) from by rw [hbn]] at hB2
      exact hB2
    rw [show (fun t : Nat → Nat => vl t 2 ≤ vl ch 2) = (fun t => vl t (V 8 0) ≤ vl ch (V 8 0)) from by rw [hbn]] at K
    have hcs := csm_le (V := V) (t := ch) (V 8 0) (fun j hj => ⟨(vb j hj).2.2.1, PVL.lt hv hpn j hj⟩)
    rw [show csm V ch 2 = csm V ch (V 8 0) from by rw [hbn]]
    refine x_aload_n (pc := 14) dX7_seatFrom_14 rfl rfl ?_
    refine x_iload (pc := 15) dX7_seatFrom_15 rfl ?_
    refine x_callV (pc := 17) (As := [.int _]) dX7_seatFrom_17 km_X7_keep kv_X7_keep kl_RX7_50 hG.g_se rfl rfl (by decide) ⟨Nat.le_refl _, Nat.le_refl _⟩ rfl (Nat.le_of_ble_eq_true rfl) (Nat.le_of_ble_eq_true rfl) (c_seKeep (nb := V 8 0) (ch := ch) hG v6 (by omega) hs (SEA.lt hv hB) (by rw [hc, hbn]) (fun q9 => ⟨rfl, rfl, ?_⟩) (fun q9 => ⟨rfl, rfl, ?_⟩))
    · skip
      refine x_return (pc := 20) dX7_seatFrom_20 rfl ⟨Nat.le_refl _, Nat.le_refl _⟩ ?_
      first
      | exact K _ _ ((BST.leaf hv hpn hBn).1 q9) ⟨(congrFun (xcopy_o (by omega) (by omega)) 3).trans up2_s, xcopy_1, fun i hi => by rw [show se + 5 + 1 = se + 6 from rfl, xcopy_i (by omega) hi, up2_row (by omega)]; exact hrow i (by omega)⟩ (hls.keep ((xcopy_o (by omega) (by omega)).trans (up2_row (by omega))) ((xcopy_o (by omega) (by omega)).trans (up2_row (by omega)))) ⟨2, Nat.le_refl _, by decide, (congrFun ((xcopy_o (by omega) (by omega)).trans (up2_row (by omega))) 1).trans hc⟩ (fun j hj => (congrFun ((xcopy_o (by omega) (by omega)).trans (up2_row (by omega))) j).trans (hrow j hj)) (fun a p => (xcopy_o (by omega) (by omega)).trans (up2_row (by omega)))
      | exact K _ _ ((BST.leaf hv hpn hBn).2 q9) hs hls ⟨2, Nat.le_refl _, by decide, hc⟩ hrow (fun _ _ => rfl)
    · skip
      refine x_return (pc := 20) dX7_seatFrom_20 rfl ⟨Nat.le_refl _, Nat.le_refl _⟩ ?_
      first
      | exact K _ _ ((BST.leaf hv hpn hBn).1 q9) ⟨(congrFun (xcopy_o (by omega) (by omega)) 3).trans up2_s, xcopy_1, fun i hi => by rw [show se + 5 + 1 = se + 6 from rfl, xcopy_i (by omega) hi, up2_row (by omega)]; exact hrow i (by omega)⟩ (hls.keep ((xcopy_o (by omega) (by omega)).trans (up2_row (by omega))) ((xcopy_o (by omega) (by omega)).trans (up2_row (by omega)))) ⟨2, Nat.le_refl _, by decide, (congrFun ((xcopy_o (by omega) (by omega)).trans (up2_row (by omega))) 1).trans hc⟩ (fun j hj => (congrFun ((xcopy_o (by omega) (by omega)).trans (up2_row (by omega))) j).trans (hrow j hj)) (fun a p => (xcopy_o (by omega) (by omega)).trans (up2_row (by omega)))
      | exact K _ _ ((BST.leaf hv hpn hBn).2 q9) hs hls ⟨2, Nat.le_refl _, by decide, hc⟩ hrow (fun _ _ => rfl)
  · skip
    refine x_iload_n (pc := 8) dX7_seatFrom_8 rfl rfl ?_
    refine x_bipush (pc := 9) (v := 6) dX7_seatFrom_9 (by decide) ?_
    refine x_icmp_lt_t (pc := 11) (tgt := 21) dX7_seatFrom_11 (by decide) (by decide) ?_
    refine x_iconst (pc := 21) (v := 0) dX7_seatFrom_21 (by decide) ?_
    refine x_istore (pc := 22) (lv' := [(0, .ref se), (1, .ref nw), (2, .int 2), (3, .int (nI u)), (4, .int (nI (csm V ch 2))), (5, .int 0)]) dX7_seatFrom_22 (by decide) rfl ?_
    have hb2 : 2 < V 8 0 := by omega
    exact l_seat_2 hG h hv hy hl hm hb2 hp hu K m 0 (by omega) I acc 2 (hB.congr (fun t ht => SPr_0 hv hl hb2 ht)) hs hls ⟨Nat.le_refl _, by decide, hc⟩ hrow (fun _ _ => rfl)

set_option maxHeartbeats 4000000 in
set_option maxRecDepth 100000 in
theorem l_seat_1 {T : xT} {n : Nat} {sh : Nat → Nat × Nat} {I : xI} {R : xR} {L : xL} {P : xPost} {lr nw im tr rd hu se ac M : Nat} (hG : GEO sh R lr nw im tr rd hu se ac M) {V : xV} {B : Nat} (h : FSC I nw V) (hv : VOK V B) (hy : VSY V) {l ch : Nat → Nat} {m u : Nat} (hl : LSO V l m) (hm : m ≤ 6) (hb : 1 < V 8 0) (hp : PVL V ch 1) (hu : USD l ch m 1 u) (K : ∀ (J : xI) (acc : xB), BST V (fun t => vl t 1 ≤ vl ch 1) acc → SEA J se (V 8 0) acc → bRow J (se + 1) m l → (∃ mm, 1 ≤ mm ∧ mm ≤ 6 ∧ J (se + 3) 1 = nI mm) → (∀ j, j < 1 → J (se + 4) j = nI (ch j)) → seP se I J → P (n, sh, 0, 0) J R L none)  : ∀ (w i : Nat), i + w = m → ∀ (J : xI) (acc : xB) (mm : Nat), BST V (SPr ch 1 (bnd l m i)) acc → SEA J se (V 8 0) acc → bRow J (se + 1) m l → (1 ≤ mm ∧ mm ≤ 6 ∧ J (se + 3) 1 = nI mm) → (∀ j, j < 1 → J (se + 4) j = nI (ch j)) → seP se I J → X T zX7_seatFrom 8 0 0 P 24 [(0, .ref se), (1, .ref nw), (2, .int 1), (3, .int (nI u)), (4, .int (nI (csm V ch 1))), (5, .int (nI i))] [] (n, sh, 0, 0) (J) R L := by
  obtain ⟨v6, v12, v10, vb, vf, vw, vm, vta, vte, vod, vrg, vdi⟩ := id hv
  have e1 := hG.g_e_nw
  have e2 := hG.g_e_se
  intro w
  induction w with
  | zero =>
    intro i hw J acc mm hB hs hlj hmm hrj fj
    have hz : i = m := by omega
    refine x_iload (pc := 24) dX7_seatFrom_24 rfl ?_
    refine x_aload_n (pc := 26) dX7_seatFrom_26 rfl rfl ?_
    refine x_getr (pc := 27) dX7_seatFrom_27 kf_RX7_14 hG.g_se rfl hG.g_se0 ?_
    refine x_get (pc := 30) dX7_seatFrom_30 kf_RX7_53 hG.g_stools.1 rfl ?_
    rw [hlj.1]
    refine x_icmpn_ge_t (pc := 33) (tgt := 123) (a := i) (b := m) dX7_seatFrom_33 (by decide) (by omega) (by omega) (by omega) ?_
    refine x_return (pc := 123) dX7_seatFrom_123 rfl ⟨Nat.le_refl _, Nat.le_refl _⟩ ?_
    rw [hz] at hB
    exact K J acc (hB.congr (fun t ht => SPr_m hv hb ht)) hs hlj ⟨mm, hmm⟩ hrj fj
  | succ w ih =>
    intro i hw J acc mm hB hs hlj hmm hrj fj
    have hi : i < m := by omega
    refine x_iload (pc := 24) dX7_seatFrom_24 rfl ?_
    refine x_aload_n (pc := 26) dX7_seatFrom_26 rfl rfl ?_
    refine x_getr (pc := 27) dX7_seatFrom_27 kf_RX7_14 hG.g_se rfl hG.g_se0 ?_
    refine x_get (pc := 30) dX7_seatFrom_30 kf_RX7_53 hG.g_stools.1 rfl ?_
    rw [hlj.1]
    refine x_icmpn_ge_f (pc := 33) (tgt := 123) (a := i) (b := m) dX7_seatFrom_33 (by decide) (by omega) (by omega) (by omega) ?_
    refine x_aload_n (pc := 36) dX7_seatFrom_36 rfl rfl ?_
    refine x_getr (pc := 37) dX7_seatFrom_37 kf_RX7_14 hG.g_se rfl hG.g_se0 ?_
    refine x_iload (pc := 40) dX7_seatFrom_40 rfl ?_
    refine x_callV (pc := 42) (As := [.int _]) dX7_seatFrom_42 km_X5_at kv_X5_at kl_RX7_55 hG.g_stools.1 rfl rfl (by decide) ⟨Nat.le_refl _, Nat.le_refl _⟩ rfl (Nat.le_of_ble_eq_true rfl) (Nat.le_of_ble_eq_true rfl) (c_at hG.g_stools (⟨rfl, rfl, ?_⟩))
    rw [hlj.1, rAt_in (m := m) hi hm (by decide), show J (se + 2) i = nI (l i) from hlj.2 i hi]
    have li := hl.lt hv hi
    refine x_istore (pc := 45) (lv' := [(0, .ref se), (1, .ref nw), (2, .int 1), (3, .int (nI u)), (4, .int (nI (csm V ch 1))), (5, .int (nI i)), (6, .int (nI (l i)))]) dX7_seatFrom_45 (by decide) rfl ?_
    refine x_iload_n (pc := 47) dX7_seatFrom_47 rfl rfl ?_
    refine x_iload (pc := 48) dX7_seatFrom_48 rfl ?_
    refine x_iushr (pc := 50) dX7_seatFrom_50 ?_
    refine x_iconst (pc := 51) (v := 1) dX7_seatFrom_51 (by decide) ?_
    refine x_iand (pc := 52) dX7_seatFrom_52 ?_
    rw [bget_c u hu.1 i (by omega)]
    have hbg := @bget_lt u i
    refine x_ifn_ne (pc := 53) (tgt := 117) (a := (bget u i)) dX7_seatFrom_53 (by decide) (by omega) (fun c53 => ?_) (fun c53 => ?_)
    · skip
      refine x_iinc (pc := 117) (v := nI (i + 1)) (lv' := [(0, .ref se), (1, .ref nw), (2, .int 1), (3, .int (nI u)), (4, .int (nI (csm V ch 1))), (5, .int (nI (i + 1))), (6, .int (nI (l i)))]) dX7_seatFrom_117 rfl (nI_1 _) (by decide) rfl ?_
      refine x_goto (pc := 120) (tgt := 24) dX7_seatFrom_120 (by decide) ?_
      first
      | exact X.keep [0, 1, 2, 3, 4, 5] rfl (ih (i + 1) (by omega) J acc mm (SKIP hv hl hi hb hp hB (fun t ht hpre e => by obtain ⟨j, hj, ej⟩ := (hu.2 i hi).mp (by omega); exact ht.2.1 j 1 (by omega) hb ((hpre j hj).trans (ej.trans e.symm)))) hs hlj hmm hrj fj)
      | exact X.keep [0, 1, 2, 3, 4, 5] rfl (ih (i + 1) (by omega) J acc mm (SKIP hv hl hi hb hp hB (fun t ht hpre e => by obtain ⟨j, hj, ej, ek⟩ := hby; exact ht.2.2 j 1 (by omega) hb ej (by rw [hpre j hj, e]; exact ek))) hs hlj hmm hrj fj)
      | (obtain ⟨mm3, m31, m32, m33⟩ := m3
         exact X.keep [0, 1, 2, 3, 4, 5] rfl (ih (i + 1) (by omega) J3 acc3 mm3 (b3.congr (fun t ht => SPr_out hv hl hi hb ht)) s3 l3 ⟨by omega, m32, m33⟩ (fun j hj => (r3 j (by omega)).trans (congrArg nI (chP_lo hj))) (fun a p => (f3 a p).trans ((g2 a (by omega) (by omega)).trans (fj a p)))))
    · skip
      refine x_aload_n (pc := 56) dX7_seatFrom_56 rfl rfl ?_
      refine x_aload_n (pc := 57) dX7_seatFrom_57 rfl rfl ?_
      refine x_iload_n (pc := 58) dX7_seatFrom_58 rfl rfl ?_
      refine x_iload (pc := 59) dX7_seatFrom_59 rfl ?_
      refine x_callV (pc := 61) (As := [.ref _, .int _, .int _]) dX7_seatFrom_61 km_X7_isByEnemy kv_X7_isByEnemy kl_RX7_59 hG.g_se rfl rfl (by decide) ⟨Nat.le_refl _, Nat.le_refl _⟩ rfl (Nat.le_of_ble_eq_true rfl) (Nat.le_of_ble_eq_true rfl) (c_isByEnemy (bi := 1) (ch := ch) (mm := mm) hG (h.keep (fun a p1 p2 => fj a (by omega))) hv (by omega) li (fun j hj => PVL.lt hv hp j hj) hmm hrj (fun hby => ⟨rfl, rfl, ?_⟩) (fun hny => ⟨rfl, rfl, ?_⟩))
      · skip
        refine x_if_eq_f (pc := 64) (tgt := 70) dX7_seatFrom_64 (by decide) (by decide) ?_
        refine x_goto (pc := 67) (tgt := 117) dX7_seatFrom_67 (by decide) ?_
        refine x_iinc (pc := 117) (v := nI (i + 1)) (lv' := [(0, .ref se), (1, .ref nw), (2, .int 1), (3, .int (nI u)), (4, .int (nI (csm V ch 1))), (5, .int (nI (i + 1))), (6, .int (nI (l i)))]) dX7_seatFrom_117 rfl (nI_1 _) (by decide) rfl ?_
        refine x_goto (pc := 120) (tgt := 24) dX7_seatFrom_120 (by decide) ?_
        first
        | exact X.keep [0, 1, 2, 3, 4, 5] rfl (ih (i + 1) (by omega) J acc mm (SKIP hv hl hi hb hp hB (fun t ht hpre e => by obtain ⟨j, hj, ej⟩ := (hu.2 i hi).mp (by omega); exact ht.2.1 j 1 (by omega) hb ((hpre j hj).trans (ej.trans e.symm)))) hs hlj hmm hrj fj)
        | exact X.keep [0, 1, 2, 3, 4, 5] rfl (ih (i + 1) (by omega) J acc mm (SKIP hv hl hi hb hp hB (fun t ht hpre e => by obtain ⟨j, hj, ej, ek⟩ := hby; exact ht.2.2 j 1 (by omega) hb ej (by rw [hpre j hj, e]; exact ek))) hs hlj hmm hrj fj)
        | (obtain ⟨mm3, m31, m32, m33⟩ := m3
           exact X.keep [0, 1, 2, 3, 4, 5] rfl (ih (i + 1) (by omega) J3 acc3 mm3 (b3.congr (fun t ht => SPr_out hv hl hi hb ht)) s3 l3 ⟨by omega, m32, m33⟩ (fun j hj => (r3 j (by omega)).trans (congrArg nI (chP_lo hj))) (fun a p => (f3 a p).trans ((g2 a (by omega) (by omega)).trans (fj a p)))))
      · skip
        refine x_if_eq_t (pc := 64) (tgt := 70) dX7_seatFrom_64 (by decide) (by decide) ?_
        refine x_aload_n (pc := 70) dX7_seatFrom_70 rfl rfl ?_
        refine x_getr (pc := 71) dX7_seatFrom_71 kf_RX7_20 hG.g_se rfl hG.g_se1 ?_
        refine x_iload_n (pc := 74) dX7_seatFrom_74 rfl rfl ?_
        refine x_put (pc := 75) dX7_seatFrom_75 kf_RX7_53 hG.g_chosen.1 rfl (Or.inl kb_5_1) ?_
        refine x_aload_n (pc := 78) dX7_seatFrom_78 rfl rfl ?_
        refine x_getr (pc := 79) dX7_seatFrom_79 kf_RX7_20 hG.g_se rfl hG.g_se1 ?_
        refine x_iload (pc := 82) dX7_seatFrom_82 rfl ?_
        refine x_callV (pc := 84) (As := [.int _]) dX7_seatFrom_84 km_X5_add kv_X5_add kl_RX7_39 hG.g_chosen.1 rfl rfl (by decide) ⟨Nat.le_refl _, Nat.le_refl _⟩ rfl (Nat.le_of_ble_eq_true rfl) (Nat.le_of_ble_eq_true rfl) (c_add (x := nI (l i)) (m := 1) hG.g_chosen up2_s (by decide) (⟨rfl, rfl, ?_⟩))
        refine x_aload_n (pc := 87) dX7_seatFrom_87 rfl rfl ?_
        refine x_aload_n (pc := 88) dX7_seatFrom_88 rfl rfl ?_
        refine x_iload_n (pc := 89) dX7_seatFrom_89 rfl rfl ?_
        refine x_iconst (pc := 90) (v := 1) dX7_seatFrom_90 (by decide) ?_
        refine x_iadd (pc := 91) dX7_seatFrom_91 ?_
        rw [show (1 : Int32) + 1 = 2 from rfl]
        refine x_iload_n (pc := 92) dX7_seatFrom_92 rfl rfl ?_
        refine x_iconst (pc := 93) (v := 1) dX7_seatFrom_93 (by decide) ?_
        refine x_iload (pc := 94) dX7_seatFrom_94 rfl ?_
        refine x_ishl (pc := 96) dX7_seatFrom_96 ?_
        refine x_ior (pc := 97) dX7_seatFrom_97 ?_
        rw [bset_m1 u hu.1 i (by omega)]
        refine x_iload (pc := 98) dX7_seatFrom_98 rfl ?_
        refine x_aload_n (pc := 100) dX7_seatFrom_100 rfl rfl ?_
        refine x_getr (pc := 101) dX7_seatFrom_101 kf_RX7_63 hG.g_nw.1 rfl hG.g_nw.2.2.2.2.2.1 ?_
        refine x_iload_n (pc := 104) dX7_seatFrom_104 rfl rfl ?_
        refine x_callV (pc := 105) (As := [.int _]) dX7_seatFrom_105 km_X5_at kv_X5_at kl_RX7_55 hG.g_nw.2.2.2.2.2.2.2.2.2.2.2.2.2.1.1 rfl rfl (by decide) ⟨Nat.le_refl _, Nat.le_refl _⟩ rfl (Nat.le_of_ble_eq_true rfl) (Nat.le_of_ble_eq_true rfl) (c_at (hG.g_nw.2.2.2.2.2.2.2.2.2.2.2.2.2.1) (⟨rfl, rfl, ?_⟩))
        rw [up2_row (show nw + 5 ≠ se + 3 by omega), up2_row (show nw + 5 ≠ se + 4 by omega), up2_row (show nw + 5 ≠ se + 3 by omega), up2_row (show nw + 6 ≠ se + 3 by omega), up2_row (show nw + 6 ≠ se + 4 by omega), up2_row (show nw + 6 ≠ se + 3 by omega), fj (nw + 5) (by omega), fj (nw + 6) (by omega), show I (nw + 5) 1 = nI (V 8 0) from (h.row 2 (by decide)).1, show rAt (nI (V 8 0)) 6 (I (nw + 6)) 1 = I (nw + 6) 1 from rAt_in (m := V 8 0) (k := 1) (by omega) v6 (by decide), show I (nw + 6) 1 = nI (V 2 1) from (h.row 2 (by decide)).2 1 (show 1 < V 8 0 by omega)]
        have cb := (vb 1 (by omega)).2.2.1
        refine x_iload (pc := 108) dX7_seatFrom_108 rfl ?_
        refine x_callSN (pc := 110) (As := [.int _, .int _]) dX7_seatFrom_110 km_X9_roundOf ks_X9_roundOf kn_RX7_66 rfl (by decide) ⟨Nat.le_refl _, Nat.le_refl _⟩ rfl (Nat.le_of_ble_eq_true rfl) (Nat.le_of_ble_eq_true rfl) (c_roundOf cb li (⟨rfl, rfl, ?_⟩))
        refine x_iaddn (pc := 113) (a := (csm V ch 1)) (b := (rnd (V 2 1) (l i))) dX7_seatFrom_113 ?_
        have g2 : ∀ a, a ≠ se + 3 → a ≠ se + 4 → (up2 (up2 (up2 J (se + 3) 1 1) (se + 4) 1 (nI (l i))) (se + 3) 1 (nI (1 + 1))) a = J a := fun a p q => (up2_row p).trans ((up2_row q).trans (up2_row p))
        have hno1 : ∀ j, j < 1 → ¬ ch j = l i := fun j hj e => by have := (hu.2 i hi).mpr ⟨j, hj, e⟩; omega
        have hp2 := PVL.chP hl hi hp hno1 hny
        have hr2 : ∀ j, j < 1 + 1 → (up2 (up2 (up2 J (se + 3) 1 1) (se + 4) 1 (nI (l i))) (se + 3) 1 (nI (1 + 1))) (se + 4) j = nI (chP ch 1 (l i) j) := fun j hj => by
          rw [up2_row (show se + 4 ≠ se + 3 by omega)]
          rcases Nat.lt_succ_iff_lt_or_eq.mp hj with z | z
          · rw [up2_k (by omega), up2_row (show se + 4 ≠ se + 3 by omega), chP_lo z]
            exact hrj j z
          · rw [z, up2_s, chP_b]
        rw [show csm V ch 1 + rnd (V 2 1) (l i) = csm V (chP ch 1 (l i)) (1 + 1) from csm_chP.symm]
        refine x_callS (pc := 114) (As := [.ref _, .ref _, .int _, .int _, .int _]) dX7_seatFrom_114 km_X7_seatFrom ks_X7_seatFrom kl_RX7_42 rfl (by decide) ⟨Nat.le_refl _, Nat.le_refl _⟩ rfl (Nat.le_of_ble_eq_true rfl) (Nat.le_of_ble_eq_true rfl) (c_seatFrom_2 (ch := chP ch 1 (l i)) (acc := acc) hG (h.keep (fun a p1 p2 => (g2 a (by omega) (by omega)).trans (fj a (by omega)))) hv hy hl hm (hlj.keep (g2 _ (by omega) (by omega)) (g2 _ (by omega) (by omega))) (show 2 ≤ V 8 0 by omega) hp2 (hu.put hm hi (fun j hj e => hl.inj hj hi e)) up2_s hr2 (hs.keep (congrFun (g2 _ (by omega) (by omega)) 3) (g2 _ (by omega) (by omega)) (g2 _ (by omega) (by omega))) (hB.congr (fun t ht => SPr_in (if_pos hi))) (fun J3 acc3 b3 s3 l3 m3 r3 f3 => ⟨rfl, rfl, ?_⟩))
        refine x_iinc (pc := 117) (v := nI (i + 1)) (lv' := [(0, .ref se), (1, .ref nw), (2, .int 1), (3, .int (nI u)), (4, .int (nI (csm V ch 1))), (5, .int (nI (i + 1))), (6, .int (nI (l i)))]) dX7_seatFrom_117 rfl (nI_1 _) (by decide) rfl ?_
        refine x_goto (pc := 120) (tgt := 24) dX7_seatFrom_120 (by decide) ?_
        first
        | exact X.keep [0, 1, 2, 3, 4, 5] rfl (ih (i + 1) (by omega) J acc mm (SKIP hv hl hi hb hp hB (fun t ht hpre e => by obtain ⟨j, hj, ej⟩ := (hu.2 i hi).mp (by omega); exact ht.2.1 j 1 (by omega) hb ((hpre j hj).trans (ej.trans e.symm)))) hs hlj hmm hrj fj)
        | exact X.keep [0, 1, 2, 3, 4, 5] rfl (ih (i + 1) (by omega) J acc mm (SKIP hv hl hi hb hp hB (fun t ht hpre e => by obtain ⟨j, hj, ej, ek⟩ := hby; exact ht.2.2 j 1 (by omega) hb ej (by rw [hpre j hj, e]; exact ek))) hs hlj hmm hrj fj)
        | (obtain ⟨mm3, m31, m32, m33⟩ := m3
           exact X.keep [0, 1, 2, 3, 4, 5] rfl (ih (i + 1) (by omega) J3 acc3 mm3 (b3.congr (fun t ht => SPr_out hv hl hi hb ht)) s3 l3 ⟨by omega, m32, m33⟩ (fun j hj => (r3 j (by omega)).trans (congrArg nI (chP_lo hj))) (fun a p => (f3 a p).trans ((g2 a (by omega) (by omega)).trans (fj a p)))))

set_option maxHeartbeats 4000000 in
set_option maxRecDepth 100000 in
theorem c_seatFrom_1 {T : xT} {n : Nat} {sh : Nat → Nat × Nat} {I : xI} {R : xR} {L : xL} {P : xPost} {lr nw im tr rd hu se ac M : Nat} (hG : GEO sh R lr nw im tr rd hu se ac M) {V : xV} {B : Nat} (h : FSC I nw V) (hv : VOK V B) (hy : VSY V) {l ch : Nat → Nat} {m u : Nat} {acc : xB} (hl : LSO V l m) (hm : m ≤ 6) (hls : bRow I (se + 1) m l) (hb : 1 ≤ V 8 0) (hp : PVL V ch 1) (hu : USD l ch m 1 u) (hc : I (se + 3) 1 = nI 1) (hrow : ∀ j, j < 1 → I (se + 4) j = nI (ch j)) (hs : SEA I se (V 8 0) acc) (hB : BST V (fun t => vl t 1 < vl ch 1) acc) (K : ∀ (J : xI) (acc : xB), BST V (fun t => vl t 1 ≤ vl ch 1) acc → SEA J se (V 8 0) acc → bRow J (se + 1) m l → (∃ mm, 1 ≤ mm ∧ mm ≤ 6 ∧ J (se + 3) 1 = nI mm) → (∀ j, j < 1 → J (se + 4) j = nI (ch j)) → seP se I J → P (n, sh, 0, 0) J R L none)  : XM T zX7_seatFrom 8 [.ref se, .ref nw, .int 1, .int (nI u), .int (nI (csm V ch 1))] n sh I R L P := by
  obtain ⟨v6, v12, v10, vb, vf, vw, vm, vta, vte, vod, vrg, vdi⟩ := id hv
  have e1 := hG.g_e_nw
  have e2 := hG.g_e_se
  refine x_iload_n (pc := 0) dX7_seatFrom_0 rfl rfl ?_
  refine x_aload_n (pc := 1) dX7_seatFrom_1 rfl rfl ?_
  refine x_callV (pc := 2) (As := []) dX7_seatFrom_2 km_X6_size kv_X6_size kl_RX7_46 hG.g_nw.1 rfl rfl (by decide) ⟨Nat.le_refl _, Nat.le_refl _⟩ rfl (Nat.le_of_ble_eq_true rfl) (Nat.le_of_ble_eq_true rfl) (c_size hG.g_nw (h.row 2 (by decide)) v6 (⟨rfl, rfl, ?_⟩))
  refine x_icmpn_ge (pc := 5) (tgt := 14) (a := 1) (b := (V 8 0)) dX7_seatFrom_5 (by decide) (by decide) (by omega) (fun c5 => ?_) (fun c5 => ?_)
  · skip
    have hbn : V 8 0 = 1 := by omega
    have hpn : PVL V ch (V 8 0) := by rw [hbn]; exact hp
    have hBn : BST V (fun t => vl t (V 8 0) < vl ch (V 8 0)) acc := by
      have hB2 := hB
      rw [show (fun t : Nat → Nat => vl t 1 < vl ch 1) = (fun t => vl t (V 8 0) < vl ch (V 8 0)) from by rw [hbn]] at hB2
      exact hB2
    rw [show (fun t : Nat → Nat => vl t 1 ≤ vl ch 1) = (fun t => vl t (V 8 0) ≤ vl ch (V 8 0)) from by rw [hbn]] at K
    have hcs := csm_le (V := V) (t := ch) (V 8 0) (fun j hj => ⟨(vb j hj).2.2.1, PVL.lt hv hpn j hj⟩)
    rw [show csm V ch 1 = csm V ch (V 8 0) from by rw [hbn]]
    refine x_aload_n (pc := 14) dX7_seatFrom_14 rfl rfl ?_
    refine x_iload (pc := 15) dX7_seatFrom_15 rfl ?_
    refine x_callV (pc := 17) (As := [.int _]) dX7_seatFrom_17 km_X7_keep kv_X7_keep kl_RX7_50 hG.g_se rfl rfl (by decide) ⟨Nat.le_refl _, Nat.le_refl _⟩ rfl (Nat.le_of_ble_eq_true rfl) (Nat.le_of_ble_eq_true rfl) (c_seKeep (nb := V 8 0) (ch := ch) hG v6 (by omega) hs (SEA.lt hv hB) (by rw [hc, hbn]) (fun q9 => ⟨rfl, rfl, ?_⟩) (fun q9 => ⟨rfl, rfl, ?_⟩))
    · skip
      refine x_return (pc := 20) dX7_seatFrom_20 rfl ⟨Nat.le_refl _, Nat.le_refl _⟩ ?_
      first
      | exact K _ _ ((BST.leaf hv hpn hBn).1 q9) ⟨(congrFun (xcopy_o (by omega) (by omega)) 3).trans up2_s, xcopy_1, fun i hi => by rw [show se + 5 + 1 = se + 6 from rfl, xcopy_i (by omega) hi, up2_row (by omega)]; exact hrow i (by omega)⟩ (hls.keep ((xcopy_o (by omega) (by omega)).trans (up2_row (by omega))) ((xcopy_o (by omega) (by omega)).trans (up2_row (by omega)))) ⟨1, Nat.le_refl _, by decide, (congrFun ((xcopy_o (by omega) (by omega)).trans (up2_row (by omega))) 1).trans hc⟩ (fun j hj => (congrFun ((xcopy_o (by omega) (by omega)).trans (up2_row (by omega))) j).trans (hrow j hj)) (fun a p => (xcopy_o (by omega) (by omega)).trans (up2_row (by omega)))
      | exact K _ _ ((BST.leaf hv hpn hBn).2 q9) hs hls ⟨1, Nat.le_refl _, by decide, hc⟩ hrow (fun _ _ => rfl)
    · skip
      refine x_return (pc := 20) dX7_seatFrom_20 rfl ⟨Nat.le_refl _, Nat.le_refl _⟩ ?_
      first
      | exact K _ _ ((BST.leaf hv hpn hBn).1 q9) ⟨(congrFun (xcopy_o (by omega) (by omega)) 3).trans up2_s, xcopy_1, fun i hi => by rw [show se + 5 + 1 = se + 6 from rfl, xcopy_i (by omega) hi, up2_row (by omega)]; exact hrow i (by omega)⟩ (hls.keep ((xcopy_o (by omega) (by omega)).trans (up2_row (by omega))) ((xcopy_o (by omega) (by omega)).trans (up2_row (by omega)))) ⟨1, Nat.le_refl _, by decide, (congrFun ((xcopy_o (by omega) (by omega)).trans (up2_row (by omega))) 1).trans hc⟩ (fun j hj => (congrFun ((xcopy_o (by omega) (by omega)).trans (up2_row (by omega))) j).trans (hrow j hj)) (fun a p => (xcopy_o (by omega) (by omega)).trans (up2_row (by omega)))
      | exact K _ _ ((BST.leaf hv hpn hBn).2 q9) hs hls ⟨1, Nat.le_refl _, by decide, hc⟩ hrow (fun _ _ => rfl)
  · skip
    refine x_iload_n (pc := 8) dX7_seatFrom_8 rfl rfl ?_
    refine x_bipush (pc := 9) (v := 6) dX7_seatFrom_9 (by decide) ?_
    refine x_icmp_lt_t (pc := 11) (tgt := 21) dX7_seatFrom_11 (by decide) (by decide) ?_
    refine x_iconst (pc := 21) (v := 0) dX7_seatFrom_21 (by decide) ?_
    refine x_istore (pc := 22) (lv' := [(0, .ref se), (1, .ref nw), (2, .int 1), (3, .int (nI u)), (4, .int (nI (csm V ch 1))), (5, .int 0)]) dX7_seatFrom_22 (by decide) rfl ?_
    have hb2 : 1 < V 8 0 := by omega
    exact l_seat_1 hG h hv hy hl hm hb2 hp hu K m 0 (by omega) I acc 1 (hB.congr (fun t ht => SPr_0 hv hl hb2 ht)) hs hls ⟨Nat.le_refl _, by decide, hc⟩ hrow (fun _ _ => rfl)

set_option maxHeartbeats 4000000 in
set_option maxRecDepth 100000 in
theorem l_seat_0 {T : xT} {n : Nat} {sh : Nat → Nat × Nat} {I : xI} {R : xR} {L : xL} {P : xPost} {lr nw im tr rd hu se ac M : Nat} (hG : GEO sh R lr nw im tr rd hu se ac M) {V : xV} {B : Nat} (h : FSC I nw V) (hv : VOK V B) (hy : VSY V) {l ch : Nat → Nat} {m u : Nat} (hl : LSO V l m) (hm : m ≤ 6) (hb : 0 < V 8 0) (hp : PVL V ch 0) (hu : USD l ch m 0 u) (K : ∀ (J : xI) (acc : xB), BST V (fun t => vl t 0 ≤ vl ch 0) acc → SEA J se (V 8 0) acc → bRow J (se + 1) m l → (∃ mm, 0 ≤ mm ∧ mm ≤ 6 ∧ J (se + 3) 1 = nI mm) → (∀ j, j < 0 → J (se + 4) j = nI (ch j)) → seP se I J → P (n, sh, 0, 0) J R L none)  : ∀ (w i : Nat), i + w = m → ∀ (J : xI) (acc : xB) (mm : Nat), BST V (SPr ch 0 (bnd l m i)) acc → SEA J se (V 8 0) acc → bRow J (se + 1) m l → (0 ≤ mm ∧ mm ≤ 6 ∧ J (se + 3) 1 = nI mm) → (∀ j, j < 0 → J (se + 4) j = nI (ch j)) → seP se I J → X T zX7_seatFrom 9 0 0 P 24 [(0, .ref se), (1, .ref nw), (2, .int 0), (3, .int (nI u)), (4, .int (nI (csm V ch 0))), (5, .int (nI i))] [] (n, sh, 0, 0) (J) R L := by
  obtain ⟨v6, v12, v10, vb, vf, vw, vm, vta, vte, vod, vrg, vdi⟩ := id hv
  have e1 := hG.g_e_nw
  have e2 := hG.g_e_se
  intro w
  induction w with
  | zero =>
    intro i hw J acc mm hB hs hlj hmm hrj fj
    have hz : i = m := by omega
    refine x_iload (pc := 24) dX7_seatFrom_24 rfl ?_
    refine x_aload_n (pc := 26) dX7_seatFrom_26 rfl rfl ?_
    refine x_getr (pc := 27) dX7_seatFrom_27 kf_RX7_14 hG.g_se rfl hG.g_se0 ?_
    refine x_get (pc := 30) dX7_seatFrom_30 kf_RX7_53 hG.g_stools.1 rfl ?_
    rw [hlj.1]
    refine x_icmpn_ge_t (pc := 33) (tgt := 123) (a := i) (b := m) dX7_seatFrom_33 (by decide) (by omega) (by omega) (by omega) ?_
    refine x_return (pc := 123) dX7_seatFrom_123 rfl ⟨Nat.le_refl _, Nat.le_refl _⟩ ?_
    rw [hz] at hB
    exact K J acc (hB.congr (fun t ht => SPr_m hv hb ht)) hs hlj ⟨mm, hmm⟩ hrj fj
  | succ w ih =>
    intro i hw J acc mm hB hs hlj hmm hrj fj
    have hi : i < m := by omega
    refine x_iload (pc := 24) dX7_seatFrom_24 rfl ?_
    refine x_aload_n (pc := 26) dX7_seatFrom_26 rfl rfl ?_
    refine x_getr (pc := 27) dX7_seatFrom_27 kf_RX7_14 hG.g_se rfl hG.g_se0 ?_
    refine x_get (pc := 30) dX7_seatFrom_30 kf_RX7_53 hG.g_stools.1 rfl ?_
    rw [hlj.1]
    refine x_icmpn_ge_f (pc := 33) (tgt := 123) (a := i) (b := m) dX7_seatFrom_33 (by decide) (by omega) (by omega) (by omega) ?_
    refine x_aload_n (pc := 36) dX7_seatFrom_36 rfl rfl ?_
    refine x_getr (pc := 37) dX7_seatFrom_37 kf_RX7_14 hG.g_se rfl hG.g_se0 ?_
    refine x_iload (pc := 40) dX7_seatFrom_40 rfl ?_
    refine x_callV (pc := 42) (As := [.int _]) dX7_seatFrom_42 km_X5_at kv_X5_at kl_RX7_55 hG.g_stools.1 rfl rfl (by decide) ⟨Nat.le_refl _, Nat.le_refl _⟩ rfl (Nat.le_of_ble_eq_true rfl) (Nat.le_of_ble_eq_true rfl) (c_at hG.g_stools (⟨rfl, rfl, ?_⟩))
    rw [hlj.1, rAt_in (m := m) hi hm (by decide), show J (se + 2) i = nI (l i) from hlj.2 i hi]
    have li := hl.lt hv hi
    refine x_istore (pc := 45) (lv' := [(0, .ref se), (1, .ref nw), (2, .int 0), (3, .int (nI u)), (4, .int (nI (csm V ch 0))), (5, .int (nI i)), (6, .int (nI (l i)))]) dX7_seatFrom_45 (by decide) rfl ?_
    refine x_iload_n (pc := 47) dX7_seatFrom_47 rfl rfl ?_
    refine x_iload (pc := 48) dX7_seatFrom_48 rfl ?_
    refine x_iushr (pc := 50) dX7_seatFrom_50 ?_
    refine x_iconst (pc := 51) (v := 1) dX7_seatFrom_51 (by decide) ?_
    refine x_iand (pc := 52) dX7_seatFrom_52 ?_
    rw [bget_c u hu.1 i (by omega)]
    have hbg := @bget_lt u i
    refine x_ifn_ne (pc := 53) (tgt := 117) (a := (bget u i)) dX7_seatFrom_53 (by decide) (by omega) (fun c53 => ?_) (fun c53 => ?_)
    · skip
      refine x_iinc (pc := 117) (v := nI (i + 1)) (lv' := [(0, .ref se), (1, .ref nw), (2, .int 0), (3, .int (nI u)), (4, .int (nI (csm V ch 0))), (5, .int (nI (i + 1))), (6, .int (nI (l i)))]) dX7_seatFrom_117 rfl (nI_1 _) (by decide) rfl ?_
      refine x_goto (pc := 120) (tgt := 24) dX7_seatFrom_120 (by decide) ?_
      first
      | exact X.keep [0, 1, 2, 3, 4, 5] rfl (ih (i + 1) (by omega) J acc mm (SKIP hv hl hi hb hp hB (fun t ht hpre e => by obtain ⟨j, hj, ej⟩ := (hu.2 i hi).mp (by omega); exact ht.2.1 j 0 (by omega) hb ((hpre j hj).trans (ej.trans e.symm)))) hs hlj hmm hrj fj)
      | exact X.keep [0, 1, 2, 3, 4, 5] rfl (ih (i + 1) (by omega) J acc mm (SKIP hv hl hi hb hp hB (fun t ht hpre e => by obtain ⟨j, hj, ej, ek⟩ := hby; exact ht.2.2 j 0 (by omega) hb ej (by rw [hpre j hj, e]; exact ek))) hs hlj hmm hrj fj)
      | (obtain ⟨mm3, m31, m32, m33⟩ := m3
         exact X.keep [0, 1, 2, 3, 4, 5] rfl (ih (i + 1) (by omega) J3 acc3 mm3 (b3.congr (fun t ht => SPr_out hv hl hi hb ht)) s3 l3 ⟨by omega, m32, m33⟩ (fun j hj => (r3 j (by omega)).trans (congrArg nI (chP_lo hj))) (fun a p => (f3 a p).trans ((g2 a (by omega) (by omega)).trans (fj a p)))))
    · skip
      refine x_aload_n (pc := 56) dX7_seatFrom_56 rfl rfl ?_
      refine x_aload_n (pc := 57) dX7_seatFrom_57 rfl rfl ?_
      refine x_iload_n (pc := 58) dX7_seatFrom_58 rfl rfl ?_
      refine x_iload (pc := 59) dX7_seatFrom_59 rfl ?_
      refine x_callV (pc := 61) (As := [.ref _, .int _, .int _]) dX7_seatFrom_61 km_X7_isByEnemy kv_X7_isByEnemy kl_RX7_59 hG.g_se rfl rfl (by decide) ⟨Nat.le_refl _, Nat.le_refl _⟩ rfl (Nat.le_of_ble_eq_true rfl) (Nat.le_of_ble_eq_true rfl) (c_isByEnemy (bi := 0) (ch := ch) (mm := mm) hG (h.keep (fun a p1 p2 => fj a (by omega))) hv (by omega) li (fun j hj => PVL.lt hv hp j hj) hmm hrj (fun hby => ⟨rfl, rfl, ?_⟩) (fun hny => ⟨rfl, rfl, ?_⟩))
      · skip
        refine x_if_eq_f (pc := 64) (tgt := 70) dX7_seatFrom_64 (by decide) (by decide) ?_
        refine x_goto (pc := 67) (tgt := 117) dX7_seatFrom_67 (by decide) ?_
        refine x_iinc (pc := 117) (v := nI (i + 1)) (lv' := [(0, .ref se), (1, .ref nw), (2, .int 0), (3, .int (nI u)), (4, .int (nI (csm V ch 0))), (5, .int (nI (i + 1))), (6, .int (nI (l i)))]) dX7_seatFrom_117 rfl (nI_1 _) (by decide) rfl ?_
        refine x_goto (pc := 120) (tgt := 24) dX7_seatFrom_120 (by decide) ?_
        first
        | exact X.keep [0, 1, 2, 3, 4, 5] rfl (ih (i + 1) (by omega) J acc mm (SKIP hv hl hi hb hp hB (fun t ht hpre e => by obtain ⟨j, hj, ej⟩ := (hu.2 i hi).mp (by omega); exact ht.2.1 j 0 (by omega) hb ((hpre j hj).trans (ej.trans e.symm)))) hs hlj hmm hrj fj)
        | exact X.keep [0, 1, 2, 3, 4, 5] rfl (ih (i + 1) (by omega) J acc mm (SKIP hv hl hi hb hp hB (fun t ht hpre e => by obtain ⟨j, hj, ej, ek⟩ := hby; exact ht.2.2 j 0 (by omega) hb ej (by rw [hpre j hj, e]; exact ek))) hs hlj hmm hrj fj)
        | (obtain ⟨mm3, m31, m32, m33⟩ := m3
           exact X.keep [0, 1, 2, 3, 4, 5] rfl (ih (i + 1) (by omega) J3 acc3 mm3 (b3.congr (fun t ht => SPr_out hv hl hi hb ht)) s3 l3 ⟨by omega, m32, m33⟩ (fun j hj => (r3 j (by omega)).trans (congrArg nI (chP_lo hj))) (fun a p => (f3 a p).trans ((g2 a (by omega) (by omega)).trans (fj a p)))))
      · skip
        refine x_if_eq_t (pc := 64) (tgt := 70) dX7_seatFrom_64 (by decide) (by decide) ?_
        refine x_aload_n (pc := 70) dX7_seatFrom_70 rfl rfl ?_
        refine x_getr (pc := 71) dX7_seatFrom_71 kf_RX7_20 hG.g_se rfl hG.g_se1 ?_
        refine x_iload_n (pc := 74) dX7_seatFrom_74 rfl rfl ?_
        refine x_put (pc := 75) dX7_seatFrom_75 kf_RX7_53 hG.g_chosen.1 rfl (Or.inl kb_5_1) ?_
        refine x_aload_n (pc := 78) dX7_seatFrom_78 rfl rfl ?_
        refine x_getr (pc := 79) dX7_seatFrom_79 kf_RX7_20 hG.g_se rfl hG.g_se1 ?_
        refine x_iload (pc := 82) dX7_seatFrom_82 rfl ?_
        refine x_callV (pc := 84) (As := [.int _]) dX7_seatFrom_84 km_X5_add kv_X5_add kl_RX7_39 hG.g_chosen.1 rfl rfl (by decide) ⟨Nat.le_refl _, Nat.le_refl _⟩ rfl (Nat.le_of_ble_eq_true rfl) (Nat.le_of_ble_eq_true rfl) (c_add (x := nI (l i)) (m := 0) hG.g_chosen up2_s (by decide) (⟨rfl, rfl, ?_⟩))
        refine x_aload_n (pc := 87) dX7_seatFrom_87 rfl rfl ?_
        refine x_aload_n (pc := 88) dX7_seatFrom_88 rfl rfl ?_
        refine x_iload_n (pc := 89) dX7_seatFrom_89 rfl rfl ?_
        refine x_iconst (pc := 90) (v := 1) dX7_seatFrom_90 (by decide) ?_
        refine x_iadd (pc := 91) dX7_seatFrom_91 ?_
        rw [show (0 : Int32) + 1 = 1 from rfl]
        refine x_iload_n (pc := 92) dX7_seatFrom_92 rfl rfl ?_
        refine x_iconst (pc := 93) (v := 1) dX7_seatFrom_93 (by decide) ?_
        refine x_iload (pc := 94) dX7_seatFrom_94 rfl ?_
        refine x_ishl (pc := 96) dX7_seatFrom_96 ?_
        refine x_ior (pc := 97) dX7_seatFrom_97 ?_
        rw [bset_m1 u hu.1 i (by omega)]
        refine x_iload (pc := 98) dX7_seatFrom_98 rfl ?_
        refine x_aload_n (pc := 100) dX7_seatFrom_100 rfl rfl ?_
        refine x_getr (pc := 101) dX7_seatFrom_101 kf_RX7_63 hG.g_nw.1 rfl hG.g_nw.2.2.2.2.2.1 ?_
        refine x_iload_n (pc := 104) dX7_seatFrom_104 rfl rfl ?_
        refine x_callV (pc := 105) (As := [.int _]) dX7_seatFrom_105 km_X5_at kv_X5_at kl_RX7_55 hG.g_nw.2.2.2.2.2.2.2.2.2.2.2.2.2.1.1 rfl rfl (by decide) ⟨Nat.le_refl _, Nat.le_refl _⟩ rfl (Nat.le_of_ble_eq_true rfl) (Nat.le_of_ble_eq_true rfl) (c_at (hG.g_nw.2.2.2.2.2.2.2.2.2.2.2.2.2.1) (⟨rfl, rfl, ?_⟩))
        rw [up2_row (show nw + 5 ≠ se + 3 by omega), up2_row (show nw + 5 ≠ se + 4 by omega), up2_row (show nw + 5 ≠ se + 3 by omega), up2_row (show nw + 6 ≠ se + 3 by omega), up2_row (show nw + 6 ≠ se + 4 by omega), up2_row (show nw + 6 ≠ se + 3 by omega), fj (nw + 5) (by omega), fj (nw + 6) (by omega), show I (nw + 5) 1 = nI (V 8 0) from (h.row 2 (by decide)).1, show rAt (nI (V 8 0)) 6 (I (nw + 6)) 0 = I (nw + 6) 0 from rAt_in (m := V 8 0) (k := 0) (by omega) v6 (by decide), show I (nw + 6) 0 = nI (V 2 0) from (h.row 2 (by decide)).2 0 (show 0 < V 8 0 by omega)]
        have cb := (vb 0 (by omega)).2.2.1
        refine x_iload (pc := 108) dX7_seatFrom_108 rfl ?_
        refine x_callSN (pc := 110) (As := [.int _, .int _]) dX7_seatFrom_110 km_X9_roundOf ks_X9_roundOf kn_RX7_66 rfl (by decide) ⟨Nat.le_refl _, Nat.le_refl _⟩ rfl (Nat.le_of_ble_eq_true rfl) (Nat.le_of_ble_eq_true rfl) (c_roundOf cb li (⟨rfl, rfl, ?_⟩))
        refine x_iaddn (pc := 113) (a := (csm V ch 0)) (b := (rnd (V 2 0) (l i))) dX7_seatFrom_113 ?_
        have g2 : ∀ a, a ≠ se + 3 → a ≠ se + 4 → (up2 (up2 (up2 J (se + 3) 1 0) (se + 4) 0 (nI (l i))) (se + 3) 1 (nI (0 + 1))) a = J a := fun a p q => (up2_row p).trans ((up2_row q).trans (up2_row p))
        have hno1 : ∀ j, j < 0 → ¬ ch j = l i := fun j hj e => by have := (hu.2 i hi).mpr ⟨j, hj, e⟩; omega
        have hp2 := PVL.chP hl hi hp hno1 hny
        have hr2 : ∀ j, j < 0 + 1 → (up2 (up2 (up2 J (se + 3) 1 0) (se + 4) 0 (nI (l i))) (se + 3) 1 (nI (0 + 1))) (se + 4) j = nI (chP ch 0 (l i) j) := fun j hj => by
          rw [up2_row (show se + 4 ≠ se + 3 by omega)]
          rcases Nat.lt_succ_iff_lt_or_eq.mp hj with z | z
          · rw [up2_k (by omega), up2_row (show se + 4 ≠ se + 3 by omega), chP_lo z]
            exact hrj j z
          · rw [z, up2_s, chP_b]
        rw [show csm V ch 0 + rnd (V 2 0) (l i) = csm V (chP ch 0 (l i)) (0 + 1) from csm_chP.symm]
        refine x_callS (pc := 114) (As := [.ref _, .ref _, .int _, .int _, .int _]) dX7_seatFrom_114 km_X7_seatFrom ks_X7_seatFrom kl_RX7_42 rfl (by decide) ⟨Nat.le_refl _, Nat.le_refl _⟩ rfl (Nat.le_of_ble_eq_true rfl) (Nat.le_of_ble_eq_true rfl) (c_seatFrom_1 (ch := chP ch 0 (l i)) (acc := acc) hG (h.keep (fun a p1 p2 => (g2 a (by omega) (by omega)).trans (fj a (by omega)))) hv hy hl hm (hlj.keep (g2 _ (by omega) (by omega)) (g2 _ (by omega) (by omega))) (show 1 ≤ V 8 0 by omega) hp2 (hu.put hm hi (fun j hj e => hl.inj hj hi e)) up2_s hr2 (hs.keep (congrFun (g2 _ (by omega) (by omega)) 3) (g2 _ (by omega) (by omega)) (g2 _ (by omega) (by omega))) (hB.congr (fun t ht => SPr_in (if_pos hi))) (fun J3 acc3 b3 s3 l3 m3 r3 f3 => ⟨rfl, rfl, ?_⟩))
        refine x_iinc (pc := 117) (v := nI (i + 1)) (lv' := [(0, .ref se), (1, .ref nw), (2, .int 0), (3, .int (nI u)), (4, .int (nI (csm V ch 0))), (5, .int (nI (i + 1))), (6, .int (nI (l i)))]) dX7_seatFrom_117 rfl (nI_1 _) (by decide) rfl ?_
        refine x_goto (pc := 120) (tgt := 24) dX7_seatFrom_120 (by decide) ?_
        first
        | exact X.keep [0, 1, 2, 3, 4, 5] rfl (ih (i + 1) (by omega) J acc mm (SKIP hv hl hi hb hp hB (fun t ht hpre e => by obtain ⟨j, hj, ej⟩ := (hu.2 i hi).mp (by omega); exact ht.2.1 j 0 (by omega) hb ((hpre j hj).trans (ej.trans e.symm)))) hs hlj hmm hrj fj)
        | exact X.keep [0, 1, 2, 3, 4, 5] rfl (ih (i + 1) (by omega) J acc mm (SKIP hv hl hi hb hp hB (fun t ht hpre e => by obtain ⟨j, hj, ej, ek⟩ := hby; exact ht.2.2 j 0 (by omega) hb ej (by rw [hpre j hj, e]; exact ek))) hs hlj hmm hrj fj)
        | (obtain ⟨mm3, m31, m32, m33⟩ := m3
           exact X.keep [0, 1, 2, 3, 4, 5] rfl (ih (i + 1) (by omega) J3 acc3 mm3 (b3.congr (fun t ht => SPr_out hv hl hi hb ht)) s3 l3 ⟨by omega, m32, m33⟩ (fun j hj => (r3 j (by omega)).trans (congrArg nI (chP_lo hj))) (fun a p => (f3 a p).trans ((g2 a (by omega) (by omega)).trans (fj a p)))))

set_option maxHeartbeats 4000000 in
set_option maxRecDepth 100000 in
theorem c_seatFrom_0 {T : xT} {n : Nat} {sh : Nat → Nat × Nat} {I : xI} {R : xR} {L : xL} {P : xPost} {lr nw im tr rd hu se ac M : Nat} (hG : GEO sh R lr nw im tr rd hu se ac M) {V : xV} {B : Nat} (h : FSC I nw V) (hv : VOK V B) (hy : VSY V) {l ch : Nat → Nat} {m u : Nat} {acc : xB} (hl : LSO V l m) (hm : m ≤ 6) (hls : bRow I (se + 1) m l) (hb : 0 ≤ V 8 0) (hp : PVL V ch 0) (hu : USD l ch m 0 u) (hc : I (se + 3) 1 = nI 0) (hrow : ∀ j, j < 0 → I (se + 4) j = nI (ch j)) (hs : SEA I se (V 8 0) acc) (hB : BST V (fun t => vl t 0 < vl ch 0) acc) (K : ∀ (J : xI) (acc : xB), BST V (fun t => vl t 0 ≤ vl ch 0) acc → SEA J se (V 8 0) acc → bRow J (se + 1) m l → (∃ mm, 0 ≤ mm ∧ mm ≤ 6 ∧ J (se + 3) 1 = nI mm) → (∀ j, j < 0 → J (se + 4) j = nI (ch j)) → seP se I J → P (n, sh, 0, 0) J R L none)  : XM T zX7_seatFrom 9 [.ref se, .ref nw, .int 0, .int (nI u), .int (nI (csm V ch 0))] n sh I R L P := by
  obtain ⟨v6, v12, v10, vb, vf, vw, vm, vta, vte, vod, vrg, vdi⟩ := id hv
  have e1 := hG.g_e_nw
  have e2 := hG.g_e_se
  refine x_iload_n (pc := 0) dX7_seatFrom_0 rfl rfl ?_
  refine x_aload_n (pc := 1) dX7_seatFrom_1 rfl rfl ?_
  refine x_callV (pc := 2) (As := []) dX7_seatFrom_2 km_X6_size kv_X6_size kl_RX7_46 hG.g_nw.1 rfl rfl (by decide) ⟨Nat.le_refl _, Nat.le_refl _⟩ rfl (Nat.le_of_ble_eq_true rfl) (Nat.le_of_ble_eq_true rfl) (c_size hG.g_nw (h.row 2 (by decide)) v6 (⟨rfl, rfl, ?_⟩))
  refine x_icmpn_ge (pc := 5) (tgt := 14) (a := 0) (b := (V 8 0)) dX7_seatFrom_5 (by decide) (by decide) (by omega) (fun c5 => ?_) (fun c5 => ?_)
  · skip
    have hbn : V 8 0 = 0 := by omega
    have hpn : PVL V ch (V 8 0) := by rw [hbn]; exact hp
    have hBn : BST V (fun t => vl t (V 8 0) < vl ch (V 8 0)) acc := by
      have hB2 := hB
      rw [show (fun t : Nat → Nat => vl t 0 < vl ch 0) = (fun t => vl t (V 8 0) < vl ch (V 8 0)) from by rw [hbn]] at hB2
      exact hB2
    rw [show (fun t : Nat → Nat => vl t 0 ≤ vl ch 0) = (fun t => vl t (V 8 0) ≤ vl ch (V 8 0)) from by rw [hbn]] at K
    have hcs := csm_le (V := V) (t := ch) (V 8 0) (fun j hj => ⟨(vb j hj).2.2.1, PVL.lt hv hpn j hj⟩)
    rw [show csm V ch 0 = csm V ch (V 8 0) from by rw [hbn]]
    refine x_aload_n (pc := 14) dX7_seatFrom_14 rfl rfl ?_
    refine x_iload (pc := 15) dX7_seatFrom_15 rfl ?_
    refine x_callV (pc := 17) (As := [.int _]) dX7_seatFrom_17 km_X7_keep kv_X7_keep kl_RX7_50 hG.g_se rfl rfl (by decide) ⟨Nat.le_refl _, Nat.le_refl _⟩ rfl (Nat.le_of_ble_eq_true rfl) (Nat.le_of_ble_eq_true rfl) (c_seKeep (nb := V 8 0) (ch := ch) hG v6 (by omega) hs (SEA.lt hv hB) (by rw [hc, hbn]) (fun q9 => ⟨rfl, rfl, ?_⟩) (fun q9 => ⟨rfl, rfl, ?_⟩))
    · skip
      refine x_return (pc := 20) dX7_seatFrom_20 rfl ⟨Nat.le_refl _, Nat.le_refl _⟩ ?_
      first
      | exact K _ _ ((BST.leaf hv hpn hBn).1 q9) ⟨(congrFun (xcopy_o (by omega) (by omega)) 3).trans up2_s, xcopy_1, fun i hi => by rw [show se + 5 + 1 = se + 6 from rfl, xcopy_i (by omega) hi, up2_row (by omega)]; exact hrow i (by omega)⟩ (hls.keep ((xcopy_o (by omega) (by omega)).trans (up2_row (by omega))) ((xcopy_o (by omega) (by omega)).trans (up2_row (by omega)))) ⟨0, Nat.le_refl _, by decide, (congrFun ((xcopy_o (by omega) (by omega)).trans (up2_row (by omega))) 1).trans hc⟩ (fun j hj => (congrFun ((xcopy_o (by omega) (by omega)).trans (up2_row (by omega))) j).trans (hrow j hj)) (fun a p => (xcopy_o (by omega) (by omega)).trans (up2_row (by omega)))
      | exact K _ _ ((BST.leaf hv hpn hBn).2 q9) hs hls ⟨0, Nat.le_refl _, by decide, hc⟩ hrow (fun _ _ => rfl)
    · skip
      refine x_return (pc := 20) dX7_seatFrom_20 rfl ⟨Nat.le_refl _, Nat.le_refl _⟩ ?_
      first
      | exact K _ _ ((BST.leaf hv hpn hBn).1 q9) ⟨(congrFun (xcopy_o (by omega) (by omega)) 3).trans up2_s, xcopy_1, fun i hi => by rw [show se + 5 + 1 = se + 6 from rfl, xcopy_i (by omega) hi, up2_row (by omega)]; exact hrow i (by omega)⟩ (hls.keep ((xcopy_o (by omega) (by omega)).trans (up2_row (by omega))) ((xcopy_o (by omega) (by omega)).trans (up2_row (by omega)))) ⟨0, Nat.le_refl _, by decide, (congrFun ((xcopy_o (by omega) (by omega)).trans (up2_row (by omega))) 1).trans hc⟩ (fun j hj => (congrFun ((xcopy_o (by omega) (by omega)).trans (up2_row (by omega))) j).trans (hrow j hj)) (fun a p => (xcopy_o (by omega) (by omega)).trans (up2_row (by omega)))
      | exact K _ _ ((BST.leaf hv hpn hBn).2 q9) hs hls ⟨0, Nat.le_refl _, by decide, hc⟩ hrow (fun _ _ => rfl)
  · skip
    refine x_iload_n (pc := 8) dX7_seatFrom_8 rfl rfl ?_
    refine x_bipush (pc := 9) (v := 6) dX7_seatFrom_9 (by decide) ?_
    refine x_icmp_lt_t (pc := 11) (tgt := 21) dX7_seatFrom_11 (by decide) (by decide) ?_
    refine x_iconst (pc := 21) (v := 0) dX7_seatFrom_21 (by decide) ?_
    refine x_istore (pc := 22) (lv' := [(0, .ref se), (1, .ref nw), (2, .int 0), (3, .int (nI u)), (4, .int (nI (csm V ch 0))), (5, .int 0)]) dX7_seatFrom_22 (by decide) rfl ?_
    have hb2 : 0 < V 8 0 := by omega
    exact l_seat_0 hG h hv hy hl hm hb2 hp hu K m 0 (by omega) I acc 0 (hB.congr (fun t ht => SPr_0 hv hl hb2 ht)) hs hls ⟨Nat.le_refl _, by decide, hc⟩ hrow (fun _ _ => rfl)

