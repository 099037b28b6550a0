/-! ===== walk, film: both sides ===== -/
theorem FSC.grow6 {I : xI} {b k : Nat} {V : xV} (h : FSC I b V) : FSC (up2 (up2 I (b + 14) (V 8 4) (nI k)) (b + 13) 1 (nI (V 8 4 + 1))) b (up2 (up2 V 6 (V 8 4) k) 8 4 (V 8 4 + 1)) := by
  obtain ⟨h1, h2, h3, h4, h5⟩ := h
  have g : ∀ a, a ≠ (b + 13) → a ≠ (b + 14) → up2 (up2 I (b + 14) (V 8 4) (nI k)) (b + 13) 1 (nI (V 8 4 + 1)) a = I a := fun a p1 p2 => (up2_row p1).trans (up2_row p2)
  refine ⟨fun t ht => ?_, ?_, ?_, ?_, ?_⟩
  · by_cases e : t = 6
    · subst e
      have e1 : vsz (up2 (up2 V 6 (V 8 4) k) 8 4 (V 8 4 + 1)) 6 = V 8 4 + 1 := by
        unfold vsz
        rw [if_neg (by decide), if_pos rfl, up2_s]
      rw [e1]
      refine ⟨up2_s, fun i hi => ?_⟩
      rw [show up2 (up2 V 6 (V 8 4) k) 8 4 (V 8 4 + 1) 6 = up2 V 6 (V 8 4) k 6 from up2_row (by decide), up2_row (show b + 2 + 2 * 6 ≠ (b + 13) by omega)]
      by_cases q : i = V 8 4
      · rw [q, up2_s]
        exact congrArg nI up2_s.symm
      · rw [up2_k q, up2_k q]
        exact ((h1 6 (by decide)).2 i (show i < V 8 4 by omega))
    · have e1 : vsz (up2 (up2 V 6 (V 8 4) k) 8 4 (V 8 4 + 1)) t = vsz V t := by
        unfold vsz
        rw [show (up2 (up2 V 6 (V 8 4) k) 8 4 (V 8 4 + 1)) 8 0 = V 8 0 from (up2_k (by decide)).trans rfl, show (up2 (up2 V 6 (V 8 4) k) 8 4 (V 8 4 + 1)) 8 5 = V 8 5 from (up2_k (by decide)).trans rfl]
        rcases t with _|_|_|_|_|_|_|_|t <;> first | rfl | exact absurd rfl e | exact absurd ht (by omega)
      rw [e1, g _ (by omega) (by omega), g _ (by omega) (by omega), show up2 (up2 V 6 (V 8 4) k) 8 4 (V 8 4 + 1) t = V t from (up2_row (by omega)).trans (up2_row e)]
      exact h1 t ht
  · rw [g b (by omega) (by omega), up2_k (show 1 ≠ 4 by decide), show up2 V 6 (V 8 4) k 8 = V 8 from up2_row (by decide)]
    exact h2
  · rw [g b (by omega) (by omega), up2_k (show 2 ≠ 4 by decide), show up2 V 6 (V 8 4) k 8 = V 8 from up2_row (by decide)]
    exact h3
  · rw [g b (by omega) (by omega), up2_k (show 3 ≠ 4 by decide), show up2 V 6 (V 8 4) k 8 = V 8 from up2_row (by decide)]
    exact h4
  · rw [g b (by omega) (by omega)]
    exact h5

theorem FSC.clr6 {I : xI} {b : Nat} {V : xV} (h : FSC I b V) : FSC (up2 I (b + 13) 1 0) b (up2 V 8 4 0) := by
  obtain ⟨h1, h2, h3, h4, h5⟩ := h
  have g : ∀ a, a ≠ (b + 13) → up2 I (b + 13) 1 0 a = I a := fun a p1 => up2_row p1
  refine ⟨fun t ht => ?_, ?_, ?_, ?_, ?_⟩
  · by_cases e : t = 6
    · subst e
      have e1 : vsz (up2 V 8 4 0) 6 = 0 := by
        unfold vsz
        rw [if_neg (by decide), if_pos rfl, up2_s]
      rw [e1]
      exact ⟨up2_s, fun i hi => absurd hi (by omega)⟩
    · have e1 : vsz (up2 V 8 4 0) t = vsz V t := by
        unfold vsz
        rw [show (up2 V 8 4 0) 8 0 = V 8 0 from (up2_k (by decide)).trans rfl, show (up2 V 8 4 0) 8 5 = V 8 5 from (up2_k (by decide)).trans rfl]
        rcases t with _|_|_|_|_|_|_|_|t <;> first | rfl | exact absurd rfl e | exact absurd ht (by omega)
      rw [e1, g _ (by omega), g _ (by omega), show up2 V 8 4 0 t = V t from up2_row (by omega)]
      exact h1 t ht
  · rw [g b (by omega), up2_k (show 1 ≠ 4 by decide)]
    exact h2
  · rw [g b (by omega), up2_k (show 2 ≠ 4 by decide)]
    exact h3
  · rw [g b (by omega), up2_k (show 3 ≠ 4 by decide)]
    exact h4
  · rw [g b (by omega)]
    exact h5

set_option maxHeartbeats 4000000 in
set_option maxRecDepth 100000 in
theorem c_walkIt {T : xT} {n : Nat} {sh : Nat → Nat × Nat} {I : xI} {R : xR} {L : xL} {P : xPost} {lr nw im tr rd hu se ac M : Nat} (hG : GEO sh R lr nw im tr rd hu se ac M) {V : xV} {B : Nat} (h : FSC I nw V) (hv : VOK V B) {x : Int32} (K : ∀ I2 : xI, FSC I2 nw (spCome V 6 12 x).2 → (∀ a, (a < nw ∨ nw + 17 ≤ a) → I2 a = I a) → P (n, sh, 0, 0) I2 R L (some (.int (spCome V 6 12 x).1)))  : XM T zX9_walk 3 [.ref lr, .int x] n sh I R L P := by
  obtain ⟨v6, v12, v10, vb, vf, vw, vm, vta, vte, vod, vrg, vdi⟩ := id hv
  refine x_aload_n (pc := 0) dX9_walk_0 rfl rfl ?_
  refine x_getr (pc := 1) dX9_walk_1 kf_RX9_12 hG.g_x rfl hG.g_f0 ?_
  refine x_getr (pc := 4) dX9_walk_4 kf_RX9_206 hG.g_nw.1 rfl hG.g_nw.2.2.2.2.2.2.2.2.2.1 ?_
  refine x_iload_n (pc := 7) dX9_walk_7 rfl rfl ?_
  refine x_bipush (pc := 8) (v := 12) dX9_walk_8 (by decide) ?_
  refine x_callS (pc := 10) (As := [.ref _, .int _, .int _]) dX9_walk_10 km_X9_comeTo ks_X9_comeTo kl_RX9_209 rfl (by decide) ⟨Nat.le_refl _, Nat.le_refl _⟩ rfl (Nat.le_of_ble_eq_true rfl) (Nat.le_of_ble_eq_true rfl) (c_comeTo (m := V 8 4) (x := x) (len := 12) (hG.g_nw.2.2.2.2.2.2.2.2.2.2.2.2.2.2.2.2.2.1) (by decide) (h.row 6 (by decide)).1 v12 (fun h0 => ⟨rfl, rfl, ?_⟩) (fun h0 h1 => ⟨rfl, rfl, ?_⟩) (fun k hk ek hf => ⟨rfl, rfl, ?_⟩) (fun k hk ek hs => ⟨rfl, rfl, ?_⟩))
  · skip
    refine x_ireturn (pc := 13) dX9_walk_13 ⟨_, rfl, rfl⟩ ⟨Nat.le_refl _, Nat.le_refl _⟩ ?_
    subst h0
    have h9 := K (up2 I (nw + 13) 1 0) (by rw [spCome_m]; exact h.clr6) (fun a ha => up2_row (by omega))
    rw [spCome_m] at h9
    exact h9
  · skip
    refine x_ireturn (pc := 13) dX9_walk_13 ⟨_, rfl, rfl⟩ ⟨Nat.le_refl _, Nat.le_refl _⟩ ?_
    have h9 := K I (by rw [spCome_n h0 (cell_n h1)]; exact h) (fun _ _ => rfl)
    rw [spCome_n h0 (cell_n h1)] at h9
    exact h9
  · skip
    refine x_ireturn (pc := 13) dX9_walk_13 ⟨_, rfl, rfl⟩ ⟨Nat.le_refl _, Nat.le_refl _⟩ ?_
    subst ek
    have h9 := K I (by rw [spCome_f hk hf]; exact h) (fun _ _ => rfl)
    rw [spCome_f hk hf] at h9
    exact h9
  · skip
    refine x_ireturn (pc := 13) dX9_walk_13 ⟨_, rfl, rfl⟩ ⟨Nat.le_refl _, Nat.le_refl _⟩ ?_
    subst ek
    have h9 := K _ (by rw [spCome_s hk hs]; exact h.grow6) (fun a ha => (up2_row (by omega)).trans (up2_row (by omega)))
    rw [spCome_s hk hs] at h9
    exact h9

theorem FSC.grow7 {I : xI} {b k : Nat} {V : xV} (h : FSC I b V) : FSC (up2 (up2 I (b + 16) (V 8 5) (nI k)) (b + 15) 1 (nI (V 8 5 + 1))) b (up2 (up2 V 7 (V 8 5) k) 8 5 (V 8 5 + 1)) := by
  obtain ⟨h1, h2, h3, h4, h5⟩ := h
  have g : ∀ a, a ≠ (b + 15) → a ≠ (b + 16) → up2 (up2 I (b + 16) (V 8 5) (nI k)) (b + 15) 1 (nI (V 8 5 + 1)) a = I a := fun a p1 p2 => (up2_row p1).trans (up2_row p2)
  refine ⟨fun t ht => ?_, ?_, ?_, ?_, ?_⟩
  · by_cases e : t = 7
    · subst e
      have e1 : vsz (up2 (up2 V 7 (V 8 5) k) 8 5 (V 8 5 + 1)) 7 = V 8 5 + 1 := by
        unfold vsz
        rw [if_neg (by decide), if_neg (by decide), up2_s]
      rw [e1]
      refine ⟨up2_s, fun i hi => ?_⟩
      rw [show up2 (up2 V 7 (V 8 5) k) 8 5 (V 8 5 + 1) 7 = up2 V 7 (V 8 5) k 7 from up2_row (by decide), up2_row (show b + 2 + 2 * 7 ≠ (b + 15) by omega)]
      by_cases q : i = V 8 5
      · rw [q, up2_s]
        exact congrArg nI up2_s.symm
      · rw [up2_k q, up2_k q]
        exact ((h1 7 (by decide)).2 i (show i < V 8 5 by omega))
    · have e1 : vsz (up2 (up2 V 7 (V 8 5) k) 8 5 (V 8 5 + 1)) t = vsz V t := by
        unfold vsz
        rw [show (up2 (up2 V 7 (V 8 5) k) 8 5 (V 8 5 + 1)) 8 0 = V 8 0 from (up2_k (by decide)).trans rfl, show (up2 (up2 V 7 (V 8 5) k) 8 5 (V 8 5 + 1)) 8 4 = V 8 4 from (up2_k (by decide)).trans rfl]
        rcases t with _|_|_|_|_|_|_|_|t <;> first | rfl | exact absurd rfl e | exact absurd ht (by omega)
      rw [e1, g _ (by omega) (by omega), g _ (by omega) (by omega), show up2 (up2 V 7 (V 8 5) k) 8 5 (V 8 5 + 1) t = V t from (up2_row (by omega)).trans (up2_row e)]
      exact h1 t ht
  · rw [g b (by omega) (by omega), up2_k (show 1 ≠ 5 by decide), show up2 V 7 (V 8 5) k 8 = V 8 from up2_row (by decide)]
    exact h2
  · rw [g b (by omega) (by omega), up2_k (show 2 ≠ 5 by decide), show up2 V 7 (V 8 5) k 8 = V 8 from up2_row (by decide)]
    exact h3
  · rw [g b (by omega) (by omega), up2_k (show 3 ≠ 5 by decide), show up2 V 7 (V 8 5) k 8 = V 8 from up2_row (by decide)]
    exact h4
  · rw [g b (by omega) (by omega)]
    exact h5

theorem FSC.clr7 {I : xI} {b : Nat} {V : xV} (h : FSC I b V) : FSC (up2 I (b + 15) 1 0) b (up2 V 8 5 0) := by
  obtain ⟨h1, h2, h3, h4, h5⟩ := h
  have g : ∀ a, a ≠ (b + 15) → up2 I (b + 15) 1 0 a = I a := fun a p1 => up2_row p1
  refine ⟨fun t ht => ?_, ?_, ?_, ?_, ?_⟩
  · by_cases e : t = 7
    · subst e
      have e1 : vsz (up2 V 8 5 0) 7 = 0 := by
        unfold vsz
        rw [if_neg (by decide), if_neg (by decide), up2_s]
      rw [e1]
      exact ⟨up2_s, fun i hi => absurd hi (by omega)⟩
    · have e1 : vsz (up2 V 8 5 0) t = vsz V t := by
        unfold vsz
        rw [show (up2 V 8 5 0) 8 0 = V 8 0 from (up2_k (by decide)).trans rfl, show (up2 V 8 5 0) 8 4 = V 8 4 from (up2_k (by decide)).trans rfl]
        rcases t with _|_|_|_|_|_|_|_|t <;> first | rfl | exact absurd rfl e | exact absurd ht (by omega)
      rw [e1, g _ (by omega), g _ (by omega), show up2 V 8 5 0 t = V t from up2_row (by omega)]
      exact h1 t ht
  · rw [g b (by omega), up2_k (show 1 ≠ 5 by decide)]
    exact h2
  · rw [g b (by omega), up2_k (show 2 ≠ 5 by decide)]
    exact h3
  · rw [g b (by omega), up2_k (show 3 ≠ 5 by decide)]
    exact h4
  · rw [g b (by omega)]
    exact h5

set_option maxHeartbeats 4000000 in
set_option maxRecDepth 100000 in
theorem c_filmIt {T : xT} {n : Nat} {sh : Nat → Nat × Nat} {I : xI} {R : xR} {L : xL} {P : xPost} {lr nw im tr rd hu se ac M : Nat} (hG : GEO sh R lr nw im tr rd hu se ac M) {V : xV} {B : Nat} (h : FSC I nw V) (hv : VOK V B) {x : Int32} (K : ∀ I2 : xI, FSC I2 nw (spCome V 7 10 x).2 → (∀ a, (a < nw ∨ nw + 17 ≤ a) → I2 a = I a) → P (n, sh, 0, 0) I2 R L (some (.int (spCome V 7 10 x).1)))  : XM T zX9_film 3 [.ref lr, .int x] n sh I R L P := by
  obtain ⟨v6, v12, v10, vb, vf, vw, vm, vta, vte, vod, vrg, vdi⟩ := id hv
  refine x_aload_n (pc := 0) dX9_film_0 rfl rfl ?_
  refine x_getr (pc := 1) dX9_film_1 kf_RX9_12 hG.g_x rfl hG.g_f0 ?_
  refine x_getr (pc := 4) dX9_film_4 kf_RX9_280 hG.g_nw.1 rfl hG.g_nw.2.2.2.2.2.2.2.2.2.2.1 ?_
  refine x_iload_n (pc := 7) dX9_film_7 rfl rfl ?_
  refine x_bipush (pc := 8) (v := 10) dX9_film_8 (by decide) ?_
  refine x_callS (pc := 10) (As := [.ref _, .int _, .int _]) dX9_film_10 km_X9_comeTo ks_X9_comeTo kl_RX9_209 rfl (by decide) ⟨Nat.le_refl _, Nat.le_refl _⟩ rfl (Nat.le_of_ble_eq_true rfl) (Nat.le_of_ble_eq_true rfl) (c_comeTo (m := V 8 5) (x := x) (len := 10) (hG.g_nw.2.2.2.2.2.2.2.2.2.2.2.2.2.2.2.2.2.2) (by decide) (h.row 7 (by decide)).1 v10 (fun h0 => ⟨rfl, rfl, ?_⟩) (fun h0 h1 => ⟨rfl, rfl, ?_⟩) (fun k hk ek hf => ⟨rfl, rfl, ?_⟩) (fun k hk ek hs => ⟨rfl, rfl, ?_⟩))
  · skip
    refine x_ireturn (pc := 13) dX9_film_13 ⟨_, rfl, rfl⟩ ⟨Nat.le_refl _, Nat.le_refl _⟩ ?_
    subst h0
    have h9 := K (up2 I (nw + 15) 1 0) (by rw [spCome_m]; exact h.clr7) (fun a ha => up2_row (by omega))
    rw [spCome_m] at h9
    exact h9
  · skip
    refine x_ireturn (pc := 13) dX9_film_13 ⟨_, rfl, rfl⟩ ⟨Nat.le_refl _, Nat.le_refl _⟩ ?_
    have h9 := K I (by rw [spCome_n h0 (cell_n h1)]; exact h) (fun _ _ => rfl)
    rw [spCome_n h0 (cell_n h1)] at h9
    exact h9
  · skip
    refine x_ireturn (pc := 13) dX9_film_13 ⟨_, rfl, rfl⟩ ⟨Nat.le_refl _, Nat.le_refl _⟩ ?_
    subst ek
    have h9 := K I (by rw [spCome_f hk hf]; exact h) (fun _ _ => rfl)
    rw [spCome_f hk hf] at h9
    exact h9
  · skip
    refine x_ireturn (pc := 13) dX9_film_13 ⟨_, rfl, rfl⟩ ⟨Nat.le_refl _, Nat.le_refl _⟩ ?_
    subst ek
    have h9 := K _ (by rw [spCome_s hk hs]; exact h.grow7) (fun a ha => (up2_row (by omega)).trans (up2_row (by omega)))
    rw [spCome_s hk hs] at h9
    exact h9

