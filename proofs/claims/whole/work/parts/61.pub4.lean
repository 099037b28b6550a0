/-! ===== enemies ===== -/
def bget (w k : Nat) : Nat := w / 2 ^ k % 2
def bset (w k : Nat) (z : Bool) : Nat := if z = true then w ||| 2 ^ k else (w ||| 2 ^ k) - 2 ^ k
theorem bget_lt {w k : Nat} : bget w k < 2 := Nat.mod_lt _ (by decide)
theorem bget_c : ∀ w, w < 64 → ∀ k, k < 6 → xushr (nI w) (nI k) &&& 1 = nI (bget w k) := by decide +kernel
theorem bget_m : ∀ w, w < 64 → ∀ k, k < 6 → (nI w >>> (nI k &&& 31)) &&& 1 = nI (bget w k) := by decide +kernel
theorem bset_c1 : ∀ w, w < 64 → ∀ k, k < 6 → (nI w &&& (((1 : Int32) <<< (nI k &&& 31)) ^^^ -1)) ||| ((1 : Int32) <<< (nI k &&& 31)) = nI (bset w k true) := by decide +kernel
theorem bset_c0 : ∀ w, w < 64 → ∀ k, k < 6 → nI w &&& (((1 : Int32) <<< (nI k &&& 31)) ^^^ -1) = nI (bset w k false) := by decide +kernel
theorem bset_m1 : ∀ w, w < 64 → ∀ k, k < 6 → nI w ||| ((1 : Int32) <<< (nI k &&& 31)) = nI (bset w k true) := by decide +kernel
theorem bset_lt : ∀ nb, nb < 7 → ∀ w, w < 64 → ∀ k, k < 6 → (w < 2 ^ nb ∧ k < nb) → bset w k true < 2 ^ nb ∧ bset w k false < 2 ^ nb := by decide +kernel
theorem bset_get : ∀ w, w < 64 → ∀ k, k < 6 → ∀ j, j < 6 → bget (bset w k true) j = (if j = k then 1 else bget w j) ∧ bget (bset w k false) j = (if j = k then 0 else bget w j) := by decide +kernel
def enV (V : xV) (a b : Nat) (z : Bool) : xV := up2 (up2 V 5 a (bset (V 5 a) b z)) 5 b (bset (V 5 b) a z)
def spEnem (V : xV) (x y : Int32) (z : Bool) : Int32 × xV := match idx (V 8 0) x with
  | none => (-1, V)
  | some a => match idx (V 8 0) y with
    | none => (-1, V)
    | some b => if a = b then (-2, V) else (nI (bget (V 5 a) b), enV V a b z)
theorem spEnem_n {V : xV} {x y : Int32} {z : Bool} (h : x < 0 ∨ nI (V 8 0) ≤ x) : spEnem V x y z = (-1, V) := by
  unfold spEnem
  rw [idx_n h]
theorem spEnem_m {V : xV} {x y : Int32} {z : Bool} (h : y < 0 ∨ nI (V 8 0) ≤ y) : spEnem V x y z = (-1, V) := by
  unfold spEnem
  cases idx (V 8 0) x with
  | none => rfl
  | some a =>
    show (match idx (V 8 0) y with | none => _ | some b => _) = _
    rw [idx_n h]
theorem spEnem_e {V : xV} {a : Nat} {z : Bool} (h6 : V 8 0 ≤ 6) (ha : a < V 8 0) : spEnem V (nI a) (nI a) z = (-2, V) := by
  unfold spEnem
  rw [idx_s ha (by omega)]
  exact if_pos rfl
theorem spEnem_s {V : xV} {a b : Nat} {z : Bool} (h6 : V 8 0 ≤ 6) (ha : a < V 8 0) (hb : b < V 8 0) (hn : ¬ a = b) : spEnem V (nI a) (nI b) z = (nI (bget (V 5 a) b), enV V a b z) := by
  unfold spEnem
  rw [idx_s ha (by omega)]
  show (match idx (V 8 0) (nI b) with | none => _ | some b => _) = _
  rw [idx_s hb (by omega)]
  exact if_neg hn
/-- enemies are enemies of one another -/
def VSY (V : xV) : Prop := ∀ i j, i < V 8 0 → j < V 8 0 → bget (V 5 i) j = bget (V 5 j) i
theorem pw6 {n w : Nat} (h : w < 2 ^ n) (hn : n ≤ 6) : w < 64 := Nat.lt_of_lt_of_le h (Nat.pow_le_pow_right (by decide) hn : 2 ^ n ≤ 2 ^ 6)
theorem bset_z {nb w k : Nat} (z : Bool) (hn : nb ≤ 6) (h : w < 2 ^ nb) (hk : k < nb) : bset w k z < 2 ^ nb := by
  have := bset_lt nb (by omega) w (pw6 h hn) k (by omega) ⟨h, hk⟩
  cases z
  · exact this.2
  · exact this.1
theorem bset_gz {w k j : Nat} (z : Bool) (h : w < 64) (hk : k < 6) (hj : j < 6) : bget (bset w k z) j = (if j = k then (if z = true then 1 else 0) else bget w j) := by
  have := bset_get w h k hk j hj
  cases z
  · exact this.2
  · exact this.1
theorem VOK.oE {V : xV} {B a b : Nat} {z : Bool} (h : VOK V B) (ha : a < V 8 0) (hb : b < V 8 0) : VOK (enV V a b z) B := by
  obtain ⟨v6, v12, v10, vb, vf, vw, vm, vta, vte, vod, vrg, vdi⟩ := h
  have r : ∀ j, j ≠ 5 → enV V a b z j = V j := fun j hj => (up2_row hj).trans (up2_row hj)
  unfold VOK
  rw [r 8 (by decide), r 0 (by decide), r 1 (by decide), r 2 (by decide), r 3 (by decide), r 4 (by decide), r 6 (by decide), r 7 (by decide)]
  refine ⟨v6, v12, v10, vb, fun i hi => ?_, vw, vm, vta, vte, vod, vrg, vdi⟩
  unfold enV
  by_cases e : i = b
  · rw [e, up2_s]
    exact bset_z z v6 (vf b hb) ha
  · rw [up2_k e]
    by_cases e2 : i = a
    · rw [e2, up2_s]
      exact bset_z z v6 (vf a ha) hb
    · rw [up2_k e2]
      exact vf i hi
theorem VSY.oE {V : xV} {B a b : Nat} {z : Bool} (hv : VOK V B) (h : VSY V) (ha : a < V 8 0) (hb : b < V 8 0) (hn : ¬ a = b) : VSY (enV V a b z) := by
  obtain ⟨v6, v12, v10, vb, vf, vw, vm, vta, vte, vod, vrg, vdi⟩ := hv
  have r : enV V a b z 8 = V 8 := (up2_row (by decide)).trans (up2_row (by decide))
  have g : ∀ i j, i < V 8 0 → j < V 8 0 → bget (enV V a b z 5 i) j = (if (i = a ∧ j = b) ∨ (i = b ∧ j = a) then (if z = true then 1 else 0) else bget (V 5 i) j) := fun i j hi hj => by
    unfold enV
    by_cases e : i = b
    · subst e
      rw [up2_s, bset_gz z (pw6 (vf _ hb) v6) (by omega) (by omega)]
      by_cases e2 : j = a
      · rw [if_pos e2, if_pos (Or.inr ⟨rfl, e2⟩)]
      · rw [if_neg e2, if_neg (fun q => q.elim (fun q => hn q.1.symm) (fun q => e2 q.2))]
    · rw [up2_k e]
      by_cases e2 : i = a
      · subst e2
        rw [up2_s, bset_gz z (pw6 (vf _ ha) v6) (by omega) (by omega)]
        by_cases e3 : j = b
        · rw [if_pos e3, if_pos (Or.inl ⟨rfl, e3⟩)]
        · rw [if_neg e3, if_neg (fun q => q.elim (fun q => e3 q.2) (fun q => e q.1))]
      · rw [up2_k e2, if_neg (fun q => q.elim (fun q => e2 q.1) (fun q => e q.1))]
  intro i j hi hj
  rw [r] at hi hj
  rw [g i j hi hj, g j i hj hi, h i j hi hj]
  by_cases q : (i = a ∧ j = b) ∨ (i = b ∧ j = a)
  · rw [if_pos q, if_pos (q.elim (fun q => Or.inr ⟨q.2, q.1⟩) (fun q => Or.inl ⟨q.2, q.1⟩))]
  · rw [if_neg q, if_neg (fun p => q (p.elim (fun p => Or.inr ⟨p.2, p.1⟩) (fun p => Or.inl ⟨p.2, p.1⟩)))]

set_option maxHeartbeats 4000000 in
set_option maxRecDepth 100000 in
theorem c_areEnemies {T : xT} {n : Nat} {sh : Nat → Nat × Nat} {I : xI} {R : xR} {L : xL} {P : xPost} {b nb ai bi : Nat} {fo : Nat → Nat} (hS : xScene sh R b) (hf : bRow I (b + 11) nb fo) (hn6 : nb ≤ 6) (ha : ai < nb) (hb : bi < 6) (hw : fo ai < 64) (K1 : bget (fo ai) bi = 1 → P (n, sh, 0, 0) I R L (some (.int 1))) (K2 : bget (fo ai) bi = 0 → P (n, sh, 0, 0) I R L (some (.int 0)))  : XM T zX6_areEnemies 1 [.ref b, .int (nI ai), .int (nI bi)] n sh I R L P := by
  refine x_aload_n (pc := 0) dX6_areEnemies_0 rfl rfl ?_
  refine x_getr (pc := 1) dX6_areEnemies_1 kf_RX6_32 hS.1 rfl hS.2.2.2.2.2.2.2.2.1 ?_
  refine x_iload_n (pc := 4) dX6_areEnemies_4 rfl rfl ?_
  refine x_callV (pc := 5) (As := [.int _]) dX6_areEnemies_5 km_X5_at kv_X5_at kl_RX6_89 hS.2.2.2.2.2.2.2.2.2.2.2.2.2.2.2.2.1.1 rfl rfl (by decide) ⟨Nat.le_refl _, Nat.le_refl _⟩ rfl (Nat.le_of_ble_eq_true rfl) (Nat.le_of_ble_eq_true rfl) (c_at (hS.2.2.2.2.2.2.2.2.2.2.2.2.2.2.2.2.1) (⟨rfl, rfl, ?_⟩))
  rw [hf.1, rAt_in (m := nb) ha hn6 (by decide), show I (b + 12) ai = nI (fo ai) from hf.2 ai ha]
  refine x_iload_n (pc := 8) dX6_areEnemies_8 rfl rfl ?_
  refine x_iushr (pc := 9) dX6_areEnemies_9 ?_
  refine x_iconst (pc := 10) (v := 1) dX6_areEnemies_10 (by decide) ?_
  refine x_iand (pc := 11) dX6_areEnemies_11 ?_
  rw [bget_c _ hw _ hb]
  have hg := @bget_lt (fo ai) bi
  refine x_ifn_eq (pc := 12) (tgt := 19) (a := (bget (fo ai) bi)) dX6_areEnemies_12 (by decide) (by omega) (fun c12 => ?_) (fun c12 => ?_)
  · skip
    refine x_iconst (pc := 19) (v := 0) dX6_areEnemies_19 (by decide) ?_
    refine x_ireturn (pc := 20) dX6_areEnemies_20 ⟨_, rfl, by decide⟩ ⟨Nat.le_refl _, Nat.le_refl _⟩ ?_
    exact K2 (by omega)
  · skip
    refine x_iconst (pc := 15) (v := 1) dX6_areEnemies_15 (by decide) ?_
    refine x_goto (pc := 16) (tgt := 20) dX6_areEnemies_16 (by decide) ?_
    refine x_ireturn (pc := 20) dX6_areEnemies_20 ⟨_, rfl, by decide⟩ ⟨Nat.le_refl _, Nat.le_refl _⟩ ?_
    exact K1 (by omega)

set_option maxHeartbeats 4000000 in
set_option maxRecDepth 100000 in
theorem c_setEnemy1 {T : xT} {n : Nat} {sh : Nat → Nat × Nat} {I : xI} {R : xR} {L : xL} {P : xPost} {b nb ai bi : Nat} {fo : Nat → Nat} (hS : xScene sh R b) (hf : bRow I (b + 11) nb fo) (hn6 : nb ≤ 6) (ha : ai < nb) (hb : bi < 6) (hw : fo ai < 64) (K : P (n, sh, 0, 0) (up2 I (b + 12) ai (nI (bset (fo ai) bi true))) R L none)  : XM T zX6_setEnemy 1 [.ref b, .int (nI ai), .int (nI bi), .int 1] n sh I R L P := by
  refine x_aload_n (pc := 0) dX6_setEnemy_0 rfl rfl ?_
  refine x_getr (pc := 1) dX6_setEnemy_1 kf_RX6_32 hS.1 rfl hS.2.2.2.2.2.2.2.2.1 ?_
  refine x_iload_n (pc := 4) dX6_setEnemy_4 rfl rfl ?_
  refine x_callV (pc := 5) (As := [.int _]) dX6_setEnemy_5 km_X5_at kv_X5_at kl_RX6_89 hS.2.2.2.2.2.2.2.2.2.2.2.2.2.2.2.2.1.1 rfl rfl (by decide) ⟨Nat.le_refl _, Nat.le_refl _⟩ rfl (Nat.le_of_ble_eq_true rfl) (Nat.le_of_ble_eq_true rfl) (c_at (hS.2.2.2.2.2.2.2.2.2.2.2.2.2.2.2.2.1) (⟨rfl, rfl, ?_⟩))
  rw [hf.1, rAt_in (m := nb) ha hn6 (by decide), show I (b + 12) ai = nI (fo ai) from hf.2 ai ha]
  refine x_iconst (pc := 8) (v := 1) dX6_setEnemy_8 (by decide) ?_
  refine x_iload_n (pc := 9) dX6_setEnemy_9 rfl rfl ?_
  refine x_ishl (pc := 10) dX6_setEnemy_10 ?_
  refine x_iconst (pc := 11) (v := -1) dX6_setEnemy_11 (by decide) ?_
  refine x_ixor (pc := 12) dX6_setEnemy_12 ?_
  refine x_iand (pc := 13) dX6_setEnemy_13 ?_
  refine x_topi (fun v14 ev14 => ?_)
  refine x_istore (pc := 14) (lv' := [(0, .ref b), (1, .int (nI ai)), (2, .int (nI bi)), (3, .int 1), (4, .int v14)]) dX6_setEnemy_14 (by decide) rfl ?_
  refine x_aload_n (pc := 16) dX6_setEnemy_16 rfl rfl ?_
  refine x_getr (pc := 17) dX6_setEnemy_17 kf_RX6_32 hS.1 rfl hS.2.2.2.2.2.2.2.2.1 ?_
  refine x_iload_n (pc := 20) dX6_setEnemy_20 rfl rfl ?_
  refine x_iload_n (pc := 21) dX6_setEnemy_21 rfl rfl ?_
  refine x_if_eq_f (pc := 22) (tgt := 34) dX6_setEnemy_22 (by decide) (by decide) ?_
  refine x_iload (pc := 25) dX6_setEnemy_25 rfl ?_
  refine x_iconst (pc := 27) (v := 1) dX6_setEnemy_27 (by decide) ?_
  refine x_iload_n (pc := 28) dX6_setEnemy_28 rfl rfl ?_
  refine x_ishl (pc := 29) dX6_setEnemy_29 ?_
  refine x_ior (pc := 30) dX6_setEnemy_30 ?_
  refine x_goto (pc := 31) (tgt := 36) dX6_setEnemy_31 (by decide) ?_
  rw [ev14, bset_c1 _ hw _ hb]
  refine x_callV (pc := 36) (As := [.int _, .int _]) dX6_setEnemy_36 km_X5_put kv_X5_put kl_RX6_92 hS.2.2.2.2.2.2.2.2.2.2.2.2.2.2.2.2.1.1 rfl rfl (by decide) ⟨Nat.le_refl _, Nat.le_refl _⟩ rfl (Nat.le_of_ble_eq_true rfl) (Nat.le_of_ble_eq_true rfl) (c_put (x := nI (bset (fo ai) bi true)) (hS.2.2.2.2.2.2.2.2.2.2.2.2.2.2.2.2.1) hf.1 ha hn6 (⟨rfl, rfl, ?_⟩))
  refine x_return (pc := 39) dX6_setEnemy_39 rfl ⟨Nat.le_refl _, Nat.le_refl _⟩ ?_
  exact K

set_option maxHeartbeats 4000000 in
set_option maxRecDepth 100000 in
theorem c_enemies1 {T : xT} {n : Nat} {sh : Nat → Nat × Nat} {I : xI} {R : xR} {L : xL} {P : xPost} {lr nw im tr rd hu se ac M : Nat} (hG : GEO sh R lr nw im tr rd hu se ac M) {V : xV} {B : Nat} (h : FSC I nw V) (hv : VOK V B) {x y : Int32} (K : ∀ I2 : xI, FSC I2 nw (spEnem V x y true).2 → (∀ a, (a < nw ∨ nw + 17 ≤ a) → I2 a = I a) → P (n, sh, 0, 0) I2 R L (some (.int (spEnem V x y true).1)))  : XM T zX9_enemies 2 [.ref lr, .int x, .int y, .int 1] n sh I R L P := by
  obtain ⟨v6, v12, v10, vb, vf, vw, vm, vta, vte, vod, vrg, vdi⟩ := id hv
  have r0 : bRow I (nw + 1) (V 8 0) (V 0) := h.row 0 (by decide)
  have r1 : bRow I (nw + 3) (V 8 0) (V 1) := h.row 1 (by decide)
  have r2 : bRow I (nw + 5) (V 8 0) (V 2) := h.row 2 (by decide)
  have r3 : bRow I (nw + 7) (V 8 0) (V 3) := h.row 3 (by decide)
  have r4 : bRow I (nw + 9) (V 8 0) (V 4) := h.row 4 (by decide)
  have r5 : bRow I (nw + 11) (V 8 0) (V 5) := h.row 5 (by decide)
  have r6 : bRow I (nw + 13) (V 8 4) (V 6) := h.row 6 (by decide)
  have r7 : bRow I (nw + 15) (V 8 5) (V 7) := h.row 7 (by decide)
  refine x_aload_n (pc := 0) dX9_enemies_0 rfl rfl ?_
  refine x_getr (pc := 1) dX9_enemies_1 kf_RX9_12 hG.g_x rfl hG.g_f0 ?_
  refine x_iload_n (pc := 4) dX9_enemies_4 rfl rfl ?_
  refine x_callV (pc := 5) (As := [.int _]) dX9_enemies_5 km_X6_isBeast kv_X6_isBeast kl_RX9_102 hG.g_nw.1 rfl rfl (by decide) ⟨Nat.le_refl _, Nat.le_refl _⟩ rfl (Nat.le_of_ble_eq_true rfl) (Nat.le_of_ble_eq_true rfl) (c_isBeast hG.g_nw r2 v6 (fun k hk ek => ⟨rfl, rfl, ?_⟩) (fun h1 => ⟨rfl, rfl, ?_⟩))
  · skip
    have hk : k < V 8 0 := hk
    subst ek
    have wk := pw6 (vf k hk) v6
    refine x_if_eq_f (pc := 8) (tgt := 22) dX9_enemies_8 (by decide) (by decide) ?_
    refine x_aload_n (pc := 11) dX9_enemies_11 rfl rfl ?_
    refine x_getr (pc := 12) dX9_enemies_12 kf_RX9_12 hG.g_x rfl hG.g_f0 ?_
    refine x_iload_n (pc := 15) dX9_enemies_15 rfl rfl ?_
    refine x_callV (pc := 16) (As := [.int _]) dX9_enemies_16 km_X6_isBeast kv_X6_isBeast kl_RX9_102 hG.g_nw.1 rfl rfl (by decide) ⟨Nat.le_refl _, Nat.le_refl _⟩ rfl (Nat.le_of_ble_eq_true rfl) (Nat.le_of_ble_eq_true rfl) (c_isBeast hG.g_nw r2 v6 (fun j hj ej => ⟨rfl, rfl, ?_⟩) (fun g1 => ⟨rfl, rfl, ?_⟩))
    · skip
      have hj : j < V 8 0 := hj
      subst ej
      have wj := pw6 (vf j hj) v6
      refine x_if_ne_t (pc := 19) (tgt := 24) dX9_enemies_19 (by decide) (by decide) ?_
      refine x_iload_n (pc := 24) dX9_enemies_24 rfl rfl ?_
      refine x_iload_n (pc := 25) dX9_enemies_25 rfl rfl ?_
      refine x_icmpn_ne (pc := 26) (tgt := 32) (a := k) (b := j) dX9_enemies_26 (by decide) (by omega) (by omega) (fun c26 => ?_) (fun c26 => ?_)
      · skip
        refine x_aload_n (pc := 32) dX9_enemies_32 rfl rfl ?_
        refine x_getr (pc := 33) dX9_enemies_33 kf_RX9_12 hG.g_x rfl hG.g_f0 ?_
        refine x_iload_n (pc := 36) dX9_enemies_36 rfl rfl ?_
        refine x_iload_n (pc := 37) dX9_enemies_37 rfl rfl ?_
        refine x_callV (pc := 38) (As := [.int _, .int _]) dX9_enemies_38 km_X6_areEnemies kv_X6_areEnemies kl_RX9_154 hG.g_nw.1 rfl rfl (by decide) ⟨Nat.le_refl _, Nat.le_refl _⟩ rfl (Nat.le_of_ble_eq_true rfl) (Nat.le_of_ble_eq_true rfl) (c_areEnemies hG.g_nw r5 v6 hk (by omega) wk (fun hb => ⟨rfl, rfl, ?_⟩) (fun hb => ⟨rfl, rfl, ?_⟩))
        · skip
          refine x_if_eq_f (pc := 41) (tgt := 48) dX9_enemies_41 (by decide) (by decide) ?_
          refine x_iconst (pc := 44) (v := 1) dX9_enemies_44 (by decide) ?_
          refine x_goto (pc := 45) (tgt := 49) dX9_enemies_45 (by decide) ?_
          refine x_istore (pc := 49) (lv' := [(0, .ref lr), (1, .int (nI k)), (2, .int (nI j)), (3, .int 1), (4, .int 1)]) dX9_enemies_49 (by decide) rfl ?_
          refine x_aload_n (pc := 51) dX9_enemies_51 rfl rfl ?_
          refine x_getr (pc := 52) dX9_enemies_52 kf_RX9_12 hG.g_x rfl hG.g_f0 ?_
          refine x_iload_n (pc := 55) dX9_enemies_55 rfl rfl ?_
          refine x_iload_n (pc := 56) dX9_enemies_56 rfl rfl ?_
          refine x_iload_n (pc := 57) dX9_enemies_57 rfl rfl ?_
          refine x_callV (pc := 58) (As := [.int _, .int _, .int _]) dX9_enemies_58 km_X6_setEnemy kv_X6_setEnemy kl_RX9_158 hG.g_nw.1 rfl rfl (by decide) ⟨Nat.le_refl _, Nat.le_refl _⟩ rfl (Nat.le_of_ble_eq_true rfl) (Nat.le_of_ble_eq_true rfl) (c_setEnemy1 hG.g_nw r5 v6 hk (show j < 6 by omega) wk (⟨rfl, rfl, ?_⟩))
          have f1 := h.setV (j := 5) (i := k) (x := bset (V 5 k) j true) (by decide)
          have s5 := f1.row 5 (by decide)
          have e5 : up2 V 5 k (bset (V 5 k) j true) 5 j = V 5 j := up2_k (fun e => c26 e.symm)
          refine x_aload_n (pc := 61) dX9_enemies_61 rfl rfl ?_
          refine x_getr (pc := 62) dX9_enemies_62 kf_RX9_12 hG.g_x rfl hG.g_f0 ?_
          refine x_iload_n (pc := 65) dX9_enemies_65 rfl rfl ?_
          refine x_iload_n (pc := 66) dX9_enemies_66 rfl rfl ?_
          refine x_iload_n (pc := 67) dX9_enemies_67 rfl rfl ?_
          refine x_callV (pc := 68) (As := [.int _, .int _, .int _]) dX9_enemies_68 km_X6_setEnemy kv_X6_setEnemy kl_RX9_158 hG.g_nw.1 rfl rfl (by decide) ⟨Nat.le_refl _, Nat.le_refl _⟩ rfl (Nat.le_of_ble_eq_true rfl) (Nat.le_of_ble_eq_true rfl) (c_setEnemy1 hG.g_nw s5 v6 hj (show k < 6 by omega) (by rw [e5]; exact wj) (⟨rfl, rfl, ?_⟩))
          refine x_iload (pc := 71) dX9_enemies_71 rfl ?_
          refine x_ireturn (pc := 73) dX9_enemies_73 ⟨_, rfl, rfl⟩ ⟨Nat.le_refl _, Nat.le_refl _⟩ ?_
          rw [e5]
          have f2 := f1.setV (j := 5) (i := j) (x := bset (V 5 j) k true) (by decide)
          have h9 := K _ (by rw [spEnem_s v6 hk hj c26]; exact f2) (fun a ha => (up2_row (by omega)).trans (up2_row (by omega)))
          rw [spEnem_s v6 hk hj c26] at h9
          rw [hb] at h9
          exact h9
        · skip
          refine x_if_eq_t (pc := 41) (tgt := 48) dX9_enemies_41 (by decide) (by decide) ?_
          refine x_iconst (pc := 48) (v := 0) dX9_enemies_48 (by decide) ?_
          refine x_istore (pc := 49) (lv' := [(0, .ref lr), (1, .int (nI k)), (2, .int (nI j)), (3, .int 1), (4, .int 0)]) dX9_enemies_49 (by decide) rfl ?_
          refine x_aload_n (pc := 51) dX9_enemies_51 rfl rfl ?_
          refine x_getr (pc := 52) dX9_enemies_52 kf_RX9_12 hG.g_x rfl hG.g_f0 ?_
          refine x_iload_n (pc := 55) dX9_enemies_55 rfl rfl ?_
          refine x_iload_n (pc := 56) dX9_enemies_56 rfl rfl ?_
          refine x_iload_n (pc := 57) dX9_enemies_57 rfl rfl ?_
          refine x_callV (pc := 58) (As := [.int _, .int _, .int _]) dX9_enemies_58 km_X6_setEnemy kv_X6_setEnemy kl_RX9_158 hG.g_nw.1 rfl rfl (by decide) ⟨Nat.le_refl _, Nat.le_refl _⟩ rfl (Nat.le_of_ble_eq_true rfl) (Nat.le_of_ble_eq_true rfl) (c_setEnemy1 hG.g_nw r5 v6 hk (show j < 6 by omega) wk (⟨rfl, rfl, ?_⟩))
          have f1 := h.setV (j := 5) (i := k) (x := bset (V 5 k) j true) (by decide)
          have s5 := f1.row 5 (by decide)
          have e5 : up2 V 5 k (bset (V 5 k) j true) 5 j = V 5 j := up2_k (fun e => c26 e.symm)
          refine x_aload_n (pc := 61) dX9_enemies_61 rfl rfl ?_
          refine x_getr (pc := 62) dX9_enemies_62 kf_RX9_12 hG.g_x rfl hG.g_f0 ?_
          refine x_iload_n (pc := 65) dX9_enemies_65 rfl rfl ?_
          refine x_iload_n (pc := 66) dX9_enemies_66 rfl rfl ?_
          refine x_iload_n (pc := 67) dX9_enemies_67 rfl rfl ?_
          refine x_callV (pc := 68) (As := [.int _, .int _, .int _]) dX9_enemies_68 km_X6_setEnemy kv_X6_setEnemy kl_RX9_158 hG.g_nw.1 rfl rfl (by decide) ⟨Nat.le_refl _, Nat.le_refl _⟩ rfl (Nat.le_of_ble_eq_true rfl) (Nat.le_of_ble_eq_true rfl) (c_setEnemy1 hG.g_nw s5 v6 hj (show k < 6 by omega) (by rw [e5]; exact wj) (⟨rfl, rfl, ?_⟩))
          refine x_iload (pc := 71) dX9_enemies_71 rfl ?_
          refine x_ireturn (pc := 73) dX9_enemies_73 ⟨_, rfl, rfl⟩ ⟨Nat.le_refl _, Nat.le_refl _⟩ ?_
          rw [e5]
          have f2 := f1.setV (j := 5) (i := j) (x := bset (V 5 j) k true) (by decide)
          have h9 := K _ (by rw [spEnem_s v6 hk hj c26]; exact f2) (fun a ha => (up2_row (by omega)).trans (up2_row (by omega)))
          rw [spEnem_s v6 hk hj c26] at h9
          rw [hb] at h9
          exact h9
      · skip
        refine x_bipush (pc := 29) (v := -2) dX9_enemies_29 (by decide) ?_
        refine x_ireturn (pc := 31) dX9_enemies_31 ⟨_, rfl, rfl⟩ ⟨Nat.le_refl _, Nat.le_refl _⟩ ?_
        subst c26
        have h9 := K I (by rw [spEnem_e v6 hk]; exact h) (fun _ _ => rfl)
        rw [spEnem_e v6 hk] at h9
        exact h9
    · skip
      refine x_if_ne_f (pc := 19) (tgt := 24) dX9_enemies_19 (by decide) (by decide) ?_
      refine x_iconst (pc := 22) (v := -1) dX9_enemies_22 (by decide) ?_
      refine x_ireturn (pc := 23) dX9_enemies_23 ⟨_, rfl, rfl⟩ ⟨Nat.le_refl _, Nat.le_refl _⟩ ?_
      have e9 : spEnem V (nI k) (y) true = (-1, V) := by first | exact spEnem_n h1 | exact spEnem_m g1
      have h9 := K I (by rw [e9]; exact h) (fun _ _ => rfl)
      rw [e9] at h9
      exact h9
  · skip
    refine x_if_eq_t (pc := 8) (tgt := 22) dX9_enemies_8 (by decide) (by decide) ?_
    refine x_iconst (pc := 22) (v := -1) dX9_enemies_22 (by decide) ?_
    refine x_ireturn (pc := 23) dX9_enemies_23 ⟨_, rfl, rfl⟩ ⟨Nat.le_refl _, Nat.le_refl _⟩ ?_
    have e9 : spEnem V (x) (y) true = (-1, V) := by first | exact spEnem_n h1 | exact spEnem_m g1
    have h9 := K I (by rw [e9]; exact h) (fun _ _ => rfl)
    rw [e9] at h9
    exact h9

set_option maxHeartbeats 4000000 in
set_option maxRecDepth 100000 in
theorem m_enemies1 {T : xT} {n : Nat} {sh : Nat → Nat × Nat} {I : xI} {R : xR} {L : xL} {P : xPost} {M : Nat} (hM : xModel sh R M) {V : xV} {B : Nat} (h : MDV I M V) (hv : VOK V B) {x y : Int32} (K : ∀ I2 : xI, MDV I2 M (spEnem V x y true).2 → mdP M I I2 → P (n, sh, 0, 0) I2 R L (some (.int (spEnem V x y true).1)))  : XM T zX10_enemies 2 [.ref M, .int x, .int y, .int 1] n sh I R L P := by
  obtain ⟨v6, v12, v10, vb, vf, vw, vm, vta, vte, vod, vrg, vdi⟩ := id hv
  refine x_aload_n (pc := 0) dX10_enemies_0 rfl rfl ?_
  refine x_iload_n (pc := 1) dX10_enemies_1 rfl rfl ?_
  refine x_callV (pc := 2) (As := [.int _]) dX10_enemies_2 km_X10_isBeast kv_X10_isBeast kl_RX10_246 hM.s rfl rfl (by decide) ⟨Nat.le_refl _, Nat.le_refl _⟩ rfl (Nat.le_of_ble_eq_true rfl) (Nat.le_of_ble_eq_true rfl) (m_isBeast hM h.1 v6 (fun k hk ek => ⟨rfl, rfl, ?_⟩) (fun h1 => ⟨rfl, rfl, ?_⟩))
  · skip
    subst ek
    have wk := pw6 (vf k hk) v6
    refine x_if_eq_f (pc := 5) (tgt := 16) dX10_enemies_5 (by decide) (by decide) ?_
    refine x_aload_n (pc := 8) dX10_enemies_8 rfl rfl ?_
    refine x_iload_n (pc := 9) dX10_enemies_9 rfl rfl ?_
    refine x_callV (pc := 10) (As := [.int _]) dX10_enemies_10 km_X10_isBeast kv_X10_isBeast kl_RX10_246 hM.s rfl rfl (by decide) ⟨Nat.le_refl _, Nat.le_refl _⟩ rfl (Nat.le_of_ble_eq_true rfl) (Nat.le_of_ble_eq_true rfl) (m_isBeast hM h.1 v6 (fun j hj ej => ⟨rfl, rfl, ?_⟩) (fun g1 => ⟨rfl, rfl, ?_⟩))
    · skip
      subst ej
      have wj := pw6 (vf j hj) v6
      have k5 : I (M + 6) k = nI (V 5 k) := h.2.2.2.2.2.2.2.1 5 (by decide) k hk
      have j5 : I (M + 6) j = nI (V 5 j) := h.2.2.2.2.2.2.2.1 5 (by decide) j hj
      refine x_if_ne_t (pc := 13) (tgt := 18) dX10_enemies_13 (by decide) (by decide) ?_
      refine x_iload_n (pc := 18) dX10_enemies_18 rfl rfl ?_
      refine x_iload_n (pc := 19) dX10_enemies_19 rfl rfl ?_
      refine x_icmpn_ne (pc := 20) (tgt := 26) (a := k) (b := j) dX10_enemies_20 (by decide) (by omega) (by omega) (fun c20 => ?_) (fun c20 => ?_)
      · skip
        refine x_aload_n (pc := 26) dX10_enemies_26 rfl rfl ?_
        refine x_getr (pc := 27) dX10_enemies_27 kf_RX10_38 hM.s rfl hM.f5 ?_
        refine x_iload_n (pc := 30) dX10_enemies_30 rfl rfl ?_
        refine x_ialdn (pc := 31) (a := k) dX10_enemies_31 hM.s5 (by omega) (by omega) ?_
        rw [k5]
        refine x_iload_n (pc := 32) dX10_enemies_32 rfl rfl ?_
        refine x_ishr (pc := 33) dX10_enemies_33 ?_
        refine x_iconst (pc := 34) (v := 1) dX10_enemies_34 (by decide) ?_
        refine x_iand (pc := 35) dX10_enemies_35 ?_
        rw [bget_m _ wk _ (show j < 6 by omega)]
        have hg := @bget_lt (V 5 k) j
        refine x_topi (fun v36 ev36 => ?_)
        refine x_istore (pc := 36) (lv' := [(0, .ref M), (1, .int (nI k)), (2, .int (nI j)), (3, .int 1), (4, .int v36)]) dX10_enemies_36 (by decide) rfl ?_
        refine x_aload_n (pc := 38) dX10_enemies_38 rfl rfl ?_
        refine x_getr (pc := 39) dX10_enemies_39 kf_RX10_38 hM.s rfl hM.f5 ?_
        refine x_iload_n (pc := 42) dX10_enemies_42 rfl rfl ?_
        refine x_iload_n (pc := 43) dX10_enemies_43 rfl rfl ?_
        refine x_if_eq_f (pc := 44) (tgt := 60) dX10_enemies_44 (by decide) (by decide) ?_
        refine x_aload_n (pc := 47) dX10_enemies_47 rfl rfl ?_
        refine x_getr (pc := 48) dX10_enemies_48 kf_RX10_38 hM.s rfl hM.f5 ?_
        refine x_iload_n (pc := 51) dX10_enemies_51 rfl rfl ?_
        refine x_ialdn (pc := 52) (a := k) dX10_enemies_52 hM.s5 (by omega) (by omega) ?_
        rw [k5]
        refine x_iconst (pc := 53) (v := 1) dX10_enemies_53 (by decide) ?_
        refine x_iload_n (pc := 54) dX10_enemies_54 rfl rfl ?_
        refine x_ishl (pc := 55) dX10_enemies_55 ?_
        refine x_ior (pc := 56) dX10_enemies_56 ?_
        rw [bset_m1 _ wk _ (show j < 6 by omega)]
        refine x_goto (pc := 57) (tgt := 72) dX10_enemies_57 (by decide) ?_
        refine x_iastn (pc := 72) (a := k) dX10_enemies_72 hM.s5 (by omega) (by omega) ?_
        refine x_aload_n (pc := 73) dX10_enemies_73 rfl rfl ?_
        refine x_getr (pc := 74) dX10_enemies_74 kf_RX10_38 hM.s rfl hM.f5 ?_
        refine x_iload_n (pc := 77) dX10_enemies_77 rfl rfl ?_
        refine x_iload_n (pc := 78) dX10_enemies_78 rfl rfl ?_
        refine x_if_eq_f (pc := 79) (tgt := 95) dX10_enemies_79 (by decide) (by decide) ?_
        refine x_aload_n (pc := 82) dX10_enemies_82 rfl rfl ?_
        refine x_getr (pc := 83) dX10_enemies_83 kf_RX10_38 hM.s rfl hM.f5 ?_
        refine x_iload_n (pc := 86) dX10_enemies_86 rfl rfl ?_
        refine x_ialdn (pc := 87) (a := j) dX10_enemies_87 hM.s5 (by omega) (by omega) ?_
        rw [show up2 I (M + 6) k (nI (bset (V 5 k) j true)) (M + 6) j = nI (V 5 j) from (up2_k (fun e => c20 e.symm)).trans j5]
        refine x_iconst (pc := 88) (v := 1) dX10_enemies_88 (by decide) ?_
        refine x_iload_n (pc := 89) dX10_enemies_89 rfl rfl ?_
        refine x_ishl (pc := 90) dX10_enemies_90 ?_
        refine x_ior (pc := 91) dX10_enemies_91 ?_
        rw [bset_m1 _ wj _ (show k < 6 by omega)]
        refine x_goto (pc := 92) (tgt := 107) dX10_enemies_92 (by decide) ?_
        refine x_iastn (pc := 107) (a := j) dX10_enemies_107 hM.s5 (by omega) (by omega) ?_
        refine x_iload (pc := 108) dX10_enemies_108 rfl ?_
        refine x_ireturn (pc := 110) dX10_enemies_110 ⟨_, rfl, rfl⟩ ⟨Nat.le_refl _, Nat.le_refl _⟩ ?_
        have f2 := (h.setV (j := 5) (i := k) (x := bset (V 5 k) j true) (by decide)).setV (j := 5) (i := j) (x := bset (V 5 j) k true) (by decide)
        have h9 := K _ (by rw [spEnem_s v6 hk hj c20]; exact f2) ((mdP.arr (by omega)).tr (mdP.arr (by omega)))
        rw [spEnem_s v6 hk hj c20] at h9
        subst ev36
        exact h9
      · skip
        refine x_bipush (pc := 23) (v := -2) dX10_enemies_23 (by decide) ?_
        refine x_ireturn (pc := 25) dX10_enemies_25 ⟨_, rfl, rfl⟩ ⟨Nat.le_refl _, Nat.le_refl _⟩ ?_
        subst c20
        have h9 := K I (by rw [spEnem_e v6 hk]; exact h) mdP.rf
        rw [spEnem_e v6 hk] at h9
        exact h9
    · skip
      refine x_if_ne_f (pc := 13) (tgt := 18) dX10_enemies_13 (by decide) (by decide) ?_
      refine x_iconst (pc := 16) (v := -1) dX10_enemies_16 (by decide) ?_
      refine x_ireturn (pc := 17) dX10_enemies_17 ⟨_, rfl, rfl⟩ ⟨Nat.le_refl _, Nat.le_refl _⟩ ?_
      have e9 : spEnem V (nI k) (y) true = (-1, V) := by first | exact spEnem_n h1 | exact spEnem_m g1
      have h9 := K I (by rw [e9]; exact h) mdP.rf
      rw [e9] at h9
      exact h9
  · skip
    refine x_if_eq_t (pc := 5) (tgt := 16) dX10_enemies_5 (by decide) (by decide) ?_
    refine x_iconst (pc := 16) (v := -1) dX10_enemies_16 (by decide) ?_
    refine x_ireturn (pc := 17) dX10_enemies_17 ⟨_, rfl, rfl⟩ ⟨Nat.le_refl _, Nat.le_refl _⟩ ?_
    have e9 : spEnem V (x) (y) true = (-1, V) := by first | exact spEnem_n h1 | exact spEnem_m g1
    have h9 := K I (by rw [e9]; exact h) mdP.rf
    rw [e9] at h9
    exact h9

set_option maxHeartbeats 4000000 in
set_option maxRecDepth 100000 in
theorem c_setEnemy0 {T : xT} {n : Nat} {sh : Nat → Nat × Nat} {I : xI} {R : xR} {L : xL} {P : xPost} {b nb ai bi : Nat} {fo : Nat → Nat} (hS : xScene sh R b) (hf : bRow I (b + 11) nb fo) (hn6 : nb ≤ 6) (ha : ai < nb) (hb : bi < 6) (hw : fo ai < 64) (K : P (n, sh, 0, 0) (up2 I (b + 12) ai (nI (bset (fo ai) bi false))) R L none)  : XM T zX6_setEnemy 1 [.ref b, .int (nI ai), .int (nI bi), .int 0] n sh I R L P := by
  refine x_aload_n (pc := 0) dX6_setEnemy_0 rfl rfl ?_
  refine x_getr (pc := 1) dX6_setEnemy_1 kf_RX6_32 hS.1 rfl hS.2.2.2.2.2.2.2.2.1 ?_
  refine x_iload_n (pc := 4) dX6_setEnemy_4 rfl rfl ?_
  refine x_callV (pc := 5) (As := [.int _]) dX6_setEnemy_5 km_X5_at kv_X5_at kl_RX6_89 hS.2.2.2.2.2.2.2.2.2.2.2.2.2.2.2.2.1.1 rfl rfl (by decide) ⟨Nat.le_refl _, Nat.le_refl _⟩ rfl (Nat.le_of_ble_eq_true rfl) (Nat.le_of_ble_eq_true rfl) (c_at (hS.2.2.2.2.2.2.2.2.2.2.2.2.2.2.2.2.1) (⟨rfl, rfl, ?_⟩))
  rw [hf.1, rAt_in (m := nb) ha hn6 (by decide), show I (b + 12) ai = nI (fo ai) from hf.2 ai ha]
  refine x_iconst (pc := 8) (v := 1) dX6_setEnemy_8 (by decide) ?_
  refine x_iload_n (pc := 9) dX6_setEnemy_9 rfl rfl ?_
  refine x_ishl (pc := 10) dX6_setEnemy_10 ?_
  refine x_iconst (pc := 11) (v := -1) dX6_setEnemy_11 (by decide) ?_
  refine x_ixor (pc := 12) dX6_setEnemy_12 ?_
  refine x_iand (pc := 13) dX6_setEnemy_13 ?_
  refine x_topi (fun v14 ev14 => ?_)
  refine x_istore (pc := 14) (lv' := [(0, .ref b), (1, .int (nI ai)), (2, .int (nI bi)), (3, .int 0), (4, .int v14)]) dX6_setEnemy_14 (by decide) rfl ?_
  refine x_aload_n (pc := 16) dX6_setEnemy_16 rfl rfl ?_
  refine x_getr (pc := 17) dX6_setEnemy_17 kf_RX6_32 hS.1 rfl hS.2.2.2.2.2.2.2.2.1 ?_
  refine x_iload_n (pc := 20) dX6_setEnemy_20 rfl rfl ?_
  refine x_iload_n (pc := 21) dX6_setEnemy_21 rfl rfl ?_
  refine x_if_eq_t (pc := 22) (tgt := 34) dX6_setEnemy_22 (by decide) (by decide) ?_
  refine x_iload (pc := 34) dX6_setEnemy_34 rfl ?_
  rw [ev14, bset_c0 _ hw _ hb]
  refine x_callV (pc := 36) (As := [.int _, .int _]) dX6_setEnemy_36 km_X5_put kv_X5_put kl_RX6_92 hS.2.2.2.2.2.2.2.2.2.2.2.2.2.2.2.2.1.1 rfl rfl (by decide) ⟨Nat.le_refl _, Nat.le_refl _⟩ rfl (Nat.le_of_ble_eq_true rfl) (Nat.le_of_ble_eq_true rfl) (c_put (x := nI (bset (fo ai) bi false)) (hS.2.2.2.2.2.2.2.2.2.2.2.2.2.2.2.2.1) hf.1 ha hn6 (⟨rfl, rfl, ?_⟩))
  refine x_return (pc := 39) dX6_setEnemy_39 rfl ⟨Nat.le_refl _, Nat.le_refl _⟩ ?_
  exact K

set_option maxHeartbeats 4000000 in
set_option maxRecDepth 100000 in
theorem c_enemies0 {T : xT} {n : Nat} {sh : Nat → Nat × Nat} {I : xI} {R : xR} {L : xL} {P : xPost} {lr nw im tr rd hu se ac M : Nat} (hG : GEO sh R lr nw im tr rd hu se ac M) {V : xV} {B : Nat} (h : FSC I nw V) (hv : VOK V B) {x y : Int32} (K : ∀ I2 : xI, FSC I2 nw (spEnem V x y false).2 → (∀ a, (a < nw ∨ nw + 17 ≤ a) → I2 a = I a) → P (n, sh, 0, 0) I2 R L (some (.int (spEnem V x y false).1)))  : XM T zX9_enemies 2 [.ref lr, .int x, .int y, .int 0] n sh I R L P := by
  obtain ⟨v6, v12, v10, vb, vf, vw, vm, vta, vte, vod, vrg, vdi⟩ := id hv
  have r0 : bRow I (nw + 1) (V 8 0) (V 0) := h.row 0 (by decide)
  have r1 : bRow I (nw + 3) (V 8 0) (V 1) := h.row 1 (by decide)
  have r2 : bRow I (nw + 5) (V 8 0) (V 2) := h.row 2 (by decide)
  have r3 : bRow I (nw + 7) (V 8 0) (V 3) := h.row 3 (by decide)
  have r4 : bRow I (nw + 9) (V 8 0) (V 4) := h.row 4 (by decide)
  have r5 : bRow I (nw + 11) (V 8 0) (V 5) := h.row 5 (by decide)
  have r6 : bRow I (nw + 13) (V 8 4) (V 6) := h.row 6 (by decide)
  have r7 : bRow I (nw + 15) (V 8 5) (V 7) := h.row 7 (by decide)
  refine x_aload_n (pc := 0) dX9_enemies_0 rfl rfl ?_
  refine x_getr (pc := 1) dX9_enemies_1 kf_RX9_12 hG.g_x rfl hG.g_f0 ?_
  refine x_iload_n (pc := 4) dX9_enemies_4 rfl rfl ?_
  refine x_callV (pc := 5) (As := [.int _]) dX9_enemies_5 km_X6_isBeast kv_X6_isBeast kl_RX9_102 hG.g_nw.1 rfl rfl (by decide) ⟨Nat.le_refl _, Nat.le_refl _⟩ rfl (Nat.le_of_ble_eq_true rfl) (Nat.le_of_ble_eq_true rfl) (c_isBeast hG.g_nw r2 v6 (fun k hk ek => ⟨rfl, rfl, ?_⟩) (fun h1 => ⟨rfl, rfl, ?_⟩))
  · skip
    have hk : k < V 8 0 := hk
    subst ek
    have wk := pw6 (vf k hk) v6
    refine x_if_eq_f (pc := 8) (tgt := 22) dX9_enemies_8 (by decide) (by decide) ?_
    refine x_aload_n (pc := 11) dX9_enemies_11 rfl rfl ?_
    refine x_getr (pc := 12) dX9_enemies_12 kf_RX9_12 hG.g_x rfl hG.g_f0 ?_
    refine x_iload_n (pc := 15) dX9_enemies_15 rfl rfl ?_
    refine x_callV (pc := 16) (As := [.int _]) dX9_enemies_16 km_X6_isBeast kv_X6_isBeast kl_RX9_102 hG.g_nw.1 rfl rfl (by decide) ⟨Nat.le_refl _, Nat.le_refl _⟩ rfl (Nat.le_of_ble_eq_true rfl) (Nat.le_of_ble_eq_true rfl) (c_isBeast hG.g_nw r2 v6 (fun j hj ej => ⟨rfl, rfl, ?_⟩) (fun g1 => ⟨rfl, rfl, ?_⟩))
    · skip
      have hj : j < V 8 0 := hj
      subst ej
      have wj := pw6 (vf j hj) v6
      refine x_if_ne_t (pc := 19) (tgt := 24) dX9_enemies_19 (by decide) (by decide) ?_
      refine x_iload_n (pc := 24) dX9_enemies_24 rfl rfl ?_
      refine x_iload_n (pc := 25) dX9_enemies_25 rfl rfl ?_
      refine x_icmpn_ne (pc := 26) (tgt := 32) (a := k) (b := j) dX9_enemies_26 (by decide) (by omega) (by omega) (fun c26 => ?_) (fun c26 => ?_)
      · skip
        refine x_aload_n (pc := 32) dX9_enemies_32 rfl rfl ?_
        refine x_getr (pc := 33) dX9_enemies_33 kf_RX9_12 hG.g_x rfl hG.g_f0 ?_
        refine x_iload_n (pc := 36) dX9_enemies_36 rfl rfl ?_
        refine x_iload_n (pc := 37) dX9_enemies_37 rfl rfl ?_
        refine x_callV (pc := 38) (As := [.int _, .int _]) dX9_enemies_38 km_X6_areEnemies kv_X6_areEnemies kl_RX9_154 hG.g_nw.1 rfl rfl (by decide) ⟨Nat.le_refl _, Nat.le_refl _⟩ rfl (Nat.le_of_ble_eq_true rfl) (Nat.le_of_ble_eq_true rfl) (c_areEnemies hG.g_nw r5 v6 hk (by omega) wk (fun hb => ⟨rfl, rfl, ?_⟩) (fun hb => ⟨rfl, rfl, ?_⟩))
        · skip
          refine x_if_eq_f (pc := 41) (tgt := 48) dX9_enemies_41 (by decide) (by decide) ?_
          refine x_iconst (pc := 44) (v := 1) dX9_enemies_44 (by decide) ?_
          refine x_goto (pc := 45) (tgt := 49) dX9_enemies_45 (by decide) ?_
          refine x_istore (pc := 49) (lv' := [(0, .ref lr), (1, .int (nI k)), (2, .int (nI j)), (3, .int 0), (4, .int 1)]) dX9_enemies_49 (by decide) rfl ?_
          refine x_aload_n (pc := 51) dX9_enemies_51 rfl rfl ?_
          refine x_getr (pc := 52) dX9_enemies_52 kf_RX9_12 hG.g_x rfl hG.g_f0 ?_
          refine x_iload_n (pc := 55) dX9_enemies_55 rfl rfl ?_
          refine x_iload_n (pc := 56) dX9_enemies_56 rfl rfl ?_
          refine x_iload_n (pc := 57) dX9_enemies_57 rfl rfl ?_
          refine x_callV (pc := 58) (As := [.int _, .int _, .int _]) dX9_enemies_58 km_X6_setEnemy kv_X6_setEnemy kl_RX9_158 hG.g_nw.1 rfl rfl (by decide) ⟨Nat.le_refl _, Nat.le_refl _⟩ rfl (Nat.le_of_ble_eq_true rfl) (Nat.le_of_ble_eq_true rfl) (c_setEnemy0 hG.g_nw r5 v6 hk (show j < 6 by omega) wk (⟨rfl, rfl, ?_⟩))
          have f1 := h.setV (j := 5) (i := k) (x := bset (V 5 k) j false) (by decide)
          have s5 := f1.row 5 (by decide)
          have e5 : up2 V 5 k (bset (V 5 k) j false) 5 j = V 5 j := up2_k (fun e => c26 e.symm)
          refine x_aload_n (pc := 61) dX9_enemies_61 rfl rfl ?_
          refine x_getr (pc := 62) dX9_enemies_62 kf_RX9_12 hG.g_x rfl hG.g_f0 ?_
          refine x_iload_n (pc := 65) dX9_enemies_65 rfl rfl ?_
          refine x_iload_n (pc := 66) dX9_enemies_66 rfl rfl ?_
          refine x_iload_n (pc := 67) dX9_enemies_67 rfl rfl ?_
          refine x_callV (pc := 68) (As := [.int _, .int _, .int _]) dX9_enemies_68 km_X6_setEnemy kv_X6_setEnemy kl_RX9_158 hG.g_nw.1 rfl rfl (by decide) ⟨Nat.le_refl _, Nat.le_refl _⟩ rfl (Nat.le_of_ble_eq_true rfl) (Nat.le_of_ble_eq_true rfl) (c_setEnemy0 hG.g_nw s5 v6 hj (show k < 6 by omega) (by rw [e5]; exact wj) (⟨rfl, rfl, ?_⟩))
          refine x_iload (pc := 71) dX9_enemies_71 rfl ?_
          refine x_ireturn (pc := 73) dX9_enemies_73 ⟨_, rfl, rfl⟩ ⟨Nat.le_refl _, Nat.le_refl _⟩ ?_
          rw [e5]
          have f2 := f1.setV (j := 5) (i := j) (x := bset (V 5 j) k false) (by decide)
          have h9 := K _ (by rw [spEnem_s v6 hk hj c26]; exact f2) (fun a ha => (up2_row (by omega)).trans (up2_row (by omega)))
          rw [spEnem_s v6 hk hj c26] at h9
          rw [hb] at h9
          exact h9
        · skip
          refine x_if_eq_t (pc := 41) (tgt := 48) dX9_enemies_41 (by decide) (by decide) ?_
          refine x_iconst (pc := 48) (v := 0) dX9_enemies_48 (by decide) ?_
          refine x_istore (pc := 49) (lv' := [(0, .ref lr), (1, .int (nI k)), (2, .int (nI j)), (3, .int 0), (4, .int 0)]) dX9_enemies_49 (by decide) rfl ?_
          refine x_aload_n (pc := 51) dX9_enemies_51 rfl rfl ?_
          refine x_getr (pc := 52) dX9_enemies_52 kf_RX9_12 hG.g_x rfl hG.g_f0 ?_
          refine x_iload_n (pc := 55) dX9_enemies_55 rfl rfl ?_
          refine x_iload_n (pc := 56) dX9_enemies_56 rfl rfl ?_
          refine x_iload_n (pc := 57) dX9_enemies_57 rfl rfl ?_
          refine x_callV (pc := 58) (As := [.int _, .int _, .int _]) dX9_enemies_58 km_X6_setEnemy kv_X6_setEnemy kl_RX9_158 hG.g_nw.1 rfl rfl (by decide) ⟨Nat.le_refl _, Nat.le_refl _⟩ rfl (Nat.le_of_ble_eq_true rfl) (Nat.le_of_ble_eq_true rfl) (c_setEnemy0 hG.g_nw r5 v6 hk (show j < 6 by omega) wk (⟨rfl, rfl, ?_⟩))
          have f1 := h.setV (j := 5) (i := k) (x := bset (V 5 k) j false) (by decide)
          have s5 := f1.row 5 (by decide)
          have e5 : up2 V 5 k (bset (V 5 k) j false) 5 j = V 5 j := up2_k (fun e => c26 e.symm)
          refine x_aload_n (pc := 61) dX9_enemies_61 rfl rfl ?_
          refine x_getr (pc := 62) dX9_enemies_62 kf_RX9_12 hG.g_x rfl hG.g_f0 ?_
          refine x_iload_n (pc := 65) dX9_enemies_65 rfl rfl ?_
          refine x_iload_n (pc := 66) dX9_enemies_66 rfl rfl ?_
          refine x_iload_n (pc := 67) dX9_enemies_67 rfl rfl ?_
          refine x_callV (pc := 68) (As := [.int _, .int _, .int _]) dX9_enemies_68 km_X6_setEnemy kv_X6_setEnemy kl_RX9_158 hG.g_nw.1 rfl rfl (by decide) ⟨Nat.le_refl _, Nat.le_refl _⟩ rfl (Nat.le_of_ble_eq_true rfl) (Nat.le_of_ble_eq_true rfl) (c_setEnemy0 hG.g_nw s5 v6 hj (show k < 6 by omega) (by rw [e5]; exact wj) (⟨rfl, rfl, ?_⟩))
          refine x_iload (pc := 71) dX9_enemies_71 rfl ?_
          refine x_ireturn (pc := 73) dX9_enemies_73 ⟨_, rfl, rfl⟩ ⟨Nat.le_refl _, Nat.le_refl _⟩ ?_
          rw [e5]
          have f2 := f1.setV (j := 5) (i := j) (x := bset (V 5 j) k false) (by decide)
          have h9 := K _ (by rw [spEnem_s v6 hk hj c26]; exact f2) (fun a ha => (up2_row (by omega)).trans (up2_row (by omega)))
          rw [spEnem_s v6 hk hj c26] at h9
          rw [hb] at h9
          exact h9
      · skip
        refine x_bipush (pc := 29) (v := -2) dX9_enemies_29 (by decide) ?_
        refine x_ireturn (pc := 31) dX9_enemies_31 ⟨_, rfl, rfl⟩ ⟨Nat.le_refl _, Nat.le_refl _⟩ ?_
        subst c26
        have h9 := K I (by rw [spEnem_e v6 hk]; exact h) (fun _ _ => rfl)
        rw [spEnem_e v6 hk] at h9
        exact h9
    · skip
      refine x_if_ne_f (pc := 19) (tgt := 24) dX9_enemies_19 (by decide) (by decide) ?_
      refine x_iconst (pc := 22) (v := -1) dX9_enemies_22 (by decide) ?_
      refine x_ireturn (pc := 23) dX9_enemies_23 ⟨_, rfl, rfl⟩ ⟨Nat.le_refl _, Nat.le_refl _⟩ ?_
      have e9 : spEnem V (nI k) (y) false = (-1, V) := by first | exact spEnem_n h1 | exact spEnem_m g1
      have h9 := K I (by rw [e9]; exact h) (fun _ _ => rfl)
      rw [e9] at h9
      exact h9
  · skip
    refine x_if_eq_t (pc := 8) (tgt := 22) dX9_enemies_8 (by decide) (by decide) ?_
    refine x_iconst (pc := 22) (v := -1) dX9_enemies_22 (by decide) ?_
    refine x_ireturn (pc := 23) dX9_enemies_23 ⟨_, rfl, rfl⟩ ⟨Nat.le_refl _, Nat.le_refl _⟩ ?_
    have e9 : spEnem V (x) (y) false = (-1, V) := by first | exact spEnem_n h1 | exact spEnem_m g1
    have h9 := K I (by rw [e9]; exact h) (fun _ _ => rfl)
    rw [e9] at h9
    exact h9

set_option maxHeartbeats 4000000 in
set_option maxRecDepth 100000 in
theorem m_enemies0 {T : xT} {n : Nat} {sh : Nat → Nat × Nat} {I : xI} {R : xR} {L : xL} {P : xPost} {M : Nat} (hM : xModel sh R M) {V : xV} {B : Nat} (h : MDV I M V) (hv : VOK V B) {x y : Int32} (K : ∀ I2 : xI, MDV I2 M (spEnem V x y false).2 → mdP M I I2 → P (n, sh, 0, 0) I2 R L (some (.int (spEnem V x y false).1)))  : XM T zX10_enemies 2 [.ref M, .int x, .int y, .int 0] n sh I R L P := by
  obtain ⟨v6, v12, v10, vb, vf, vw, vm, vta, vte, vod, vrg, vdi⟩ := id hv
  refine x_aload_n (pc := 0) dX10_enemies_0 rfl rfl ?_
  refine x_iload_n (pc := 1) dX10_enemies_1 rfl rfl ?_
  refine x_callV (pc := 2) (As := [.int _]) dX10_enemies_2 km_X10_isBeast kv_X10_isBeast kl_RX10_246 hM.s rfl rfl (by decide) ⟨Nat.le_refl _, Nat.le_refl _⟩ rfl (Nat.le_of_ble_eq_true rfl) (Nat.le_of_ble_eq_true rfl) (m_isBeast hM h.1 v6 (fun k hk ek => ⟨rfl, rfl, ?_⟩) (fun h1 => ⟨rfl, rfl, ?_⟩))
  · skip
    subst ek
    have wk := pw6 (vf k hk) v6
    refine x_if_eq_f (pc := 5) (tgt := 16) dX10_enemies_5 (by decide) (by decide) ?_
    refine x_aload_n (pc := 8) dX10_enemies_8 rfl rfl ?_
    refine x_iload_n (pc := 9) dX10_enemies_9 rfl rfl ?_
    refine x_callV (pc := 10) (As := [.int _]) dX10_enemies_10 km_X10_isBeast kv_X10_isBeast kl_RX10_246 hM.s rfl rfl (by decide) ⟨Nat.le_refl _, Nat.le_refl _⟩ rfl (Nat.le_of_ble_eq_true rfl) (Nat.le_of_ble_eq_true rfl) (m_isBeast hM h.1 v6 (fun j hj ej => ⟨rfl, rfl, ?_⟩) (fun g1 => ⟨rfl, rfl, ?_⟩))
    · skip
      subst ej
      have wj := pw6 (vf j hj) v6
      have k5 : I (M + 6) k = nI (V 5 k) := h.2.2.2.2.2.2.2.1 5 (by decide) k hk
      have j5 : I (M + 6) j = nI (V 5 j) := h.2.2.2.2.2.2.2.1 5 (by decide) j hj
      refine x_if_ne_t (pc := 13) (tgt := 18) dX10_enemies_13 (by decide) (by decide) ?_
      refine x_iload_n (pc := 18) dX10_enemies_18 rfl rfl ?_
      refine x_iload_n (pc := 19) dX10_enemies_19 rfl rfl ?_
      refine x_icmpn_ne (pc := 20) (tgt := 26) (a := k) (b := j) dX10_enemies_20 (by decide) (by omega) (by omega) (fun c20 => ?_) (fun c20 => ?_)
      · skip
        refine x_aload_n (pc := 26) dX10_enemies_26 rfl rfl ?_
        refine x_getr (pc := 27) dX10_enemies_27 kf_RX10_38 hM.s rfl hM.f5 ?_
        refine x_iload_n (pc := 30) dX10_enemies_30 rfl rfl ?_
        refine x_ialdn (pc := 31) (a := k) dX10_enemies_31 hM.s5 (by omega) (by omega) ?_
        rw [k5]
        refine x_iload_n (pc := 32) dX10_enemies_32 rfl rfl ?_
        refine x_ishr (pc := 33) dX10_enemies_33 ?_
        refine x_iconst (pc := 34) (v := 1) dX10_enemies_34 (by decide) ?_
        refine x_iand (pc := 35) dX10_enemies_35 ?_
        rw [bget_m _ wk _ (show j < 6 by omega)]
        have hg := @bget_lt (V 5 k) j
        refine x_topi (fun v36 ev36 => ?_)
        refine x_istore (pc := 36) (lv' := [(0, .ref M), (1, .int (nI k)), (2, .int (nI j)), (3, .int 0), (4, .int v36)]) dX10_enemies_36 (by decide) rfl ?_
        refine x_aload_n (pc := 38) dX10_enemies_38 rfl rfl ?_
        refine x_getr (pc := 39) dX10_enemies_39 kf_RX10_38 hM.s rfl hM.f5 ?_
        refine x_iload_n (pc := 42) dX10_enemies_42 rfl rfl ?_
        refine x_iload_n (pc := 43) dX10_enemies_43 rfl rfl ?_
        refine x_if_eq_t (pc := 44) (tgt := 60) dX10_enemies_44 (by decide) (by decide) ?_
        refine x_aload_n (pc := 60) dX10_enemies_60 rfl rfl ?_
        refine x_getr (pc := 61) dX10_enemies_61 kf_RX10_38 hM.s rfl hM.f5 ?_
        refine x_iload_n (pc := 64) dX10_enemies_64 rfl rfl ?_
        refine x_ialdn (pc := 65) (a := k) dX10_enemies_65 hM.s5 (by omega) (by omega) ?_
        rw [k5]
        refine x_iconst (pc := 66) (v := 1) dX10_enemies_66 (by decide) ?_
        refine x_iload_n (pc := 67) dX10_enemies_67 rfl rfl ?_
        refine x_ishl (pc := 68) dX10_enemies_68 ?_
        refine x_iconst (pc := 69) (v := -1) dX10_enemies_69 (by decide) ?_
        refine x_ixor (pc := 70) dX10_enemies_70 ?_
        refine x_iand (pc := 71) dX10_enemies_71 ?_
        rw [bset_c0 _ wk _ (show j < 6 by omega)]
        refine x_iastn (pc := 72) (a := k) dX10_enemies_72 hM.s5 (by omega) (by omega) ?_
        refine x_aload_n (pc := 73) dX10_enemies_73 rfl rfl ?_
        refine x_getr (pc := 74) dX10_enemies_74 kf_RX10_38 hM.s rfl hM.f5 ?_
        refine x_iload_n (pc := 77) dX10_enemies_77 rfl rfl ?_
        refine x_iload_n (pc := 78) dX10_enemies_78 rfl rfl ?_
        refine x_if_eq_t (pc := 79) (tgt := 95) dX10_enemies_79 (by decide) (by decide) ?_
        refine x_aload_n (pc := 95) dX10_enemies_95 rfl rfl ?_
        refine x_getr (pc := 96) dX10_enemies_96 kf_RX10_38 hM.s rfl hM.f5 ?_
        refine x_iload_n (pc := 99) dX10_enemies_99 rfl rfl ?_
        refine x_ialdn (pc := 100) (a := j) dX10_enemies_100 hM.s5 (by omega) (by omega) ?_
        rw [show up2 I (M + 6) k (nI (bset (V 5 k) j false)) (M + 6) j = nI (V 5 j) from (up2_k (fun e => c20 e.symm)).trans j5]
        refine x_iconst (pc := 101) (v := 1) dX10_enemies_101 (by decide) ?_
        refine x_iload_n (pc := 102) dX10_enemies_102 rfl rfl ?_
        refine x_ishl (pc := 103) dX10_enemies_103 ?_
        refine x_iconst (pc := 104) (v := -1) dX10_enemies_104 (by decide) ?_
        refine x_ixor (pc := 105) dX10_enemies_105 ?_
        refine x_iand (pc := 106) dX10_enemies_106 ?_
        rw [bset_c0 _ wj _ (show k < 6 by omega)]
        refine x_iastn (pc := 107) (a := j) dX10_enemies_107 hM.s5 (by omega) (by omega) ?_
        refine x_iload (pc := 108) dX10_enemies_108 rfl ?_
        refine x_ireturn (pc := 110) dX10_enemies_110 ⟨_, rfl, rfl⟩ ⟨Nat.le_refl _, Nat.le_refl _⟩ ?_
        have f2 := (h.setV (j := 5) (i := k) (x := bset (V 5 k) j false) (by decide)).setV (j := 5) (i := j) (x := bset (V 5 j) k false) (by decide)
        have h9 := K _ (by rw [spEnem_s v6 hk hj c20]; exact f2) ((mdP.arr (by omega)).tr (mdP.arr (by omega)))
        rw [spEnem_s v6 hk hj c20] at h9
        subst ev36
        exact h9
      · skip
        refine x_bipush (pc := 23) (v := -2) dX10_enemies_23 (by decide) ?_
        refine x_ireturn (pc := 25) dX10_enemies_25 ⟨_, rfl, rfl⟩ ⟨Nat.le_refl _, Nat.le_refl _⟩ ?_
        subst c20
        have h9 := K I (by rw [spEnem_e v6 hk]; exact h) mdP.rf
        rw [spEnem_e v6 hk] at h9
        exact h9
    · skip
      refine x_if_ne_f (pc := 13) (tgt := 18) dX10_enemies_13 (by decide) (by decide) ?_
      refine x_iconst (pc := 16) (v := -1) dX10_enemies_16 (by decide) ?_
      refine x_ireturn (pc := 17) dX10_enemies_17 ⟨_, rfl, rfl⟩ ⟨Nat.le_refl _, Nat.le_refl _⟩ ?_
      have e9 : spEnem V (nI k) (y) false = (-1, V) := by first | exact spEnem_n h1 | exact spEnem_m g1
      have h9 := K I (by rw [e9]; exact h) mdP.rf
      rw [e9] at h9
      exact h9
  · skip
    refine x_if_eq_t (pc := 5) (tgt := 16) dX10_enemies_5 (by decide) (by decide) ?_
    refine x_iconst (pc := 16) (v := -1) dX10_enemies_16 (by decide) ?_
    refine x_ireturn (pc := 17) dX10_enemies_17 ⟨_, rfl, rfl⟩ ⟨Nat.le_refl _, Nat.le_refl _⟩ ?_
    have e9 : spEnem V (x) (y) false = (-1, V) := by first | exact spEnem_n h1 | exact spEnem_m g1
    have h9 := K I (by rw [e9]; exact h) mdP.rf
    rw [e9] at h9
    exact h9

