/-! ===== image, undo: both sides ===== -/
theorem FSC.lr {I : xI} {b k : Nat} {x : Int32} {a : Nat} {V : xV} (h : FSC I b V) (ha : a < b ∨ b + 16 < a) : FSC (up2 I a k x) b V := h.keep (fun q p1 p2 => up2_row (by omega))

set_option maxHeartbeats 4000000 in
set_option maxRecDepth 100000 in
theorem c_image {T : xT} {n : Nat} {sh : Nat → Nat × Nat} {I : xI} {R : xR} {L : xL} {P : xPost} {lr nw im tr rd hu se ac M : Nat} (hG : GEO sh R lr nw im tr rd hu se ac M) {V : xV} {B : Nat} (h : FSC I nw V) (hv : VOK V B) (K : ∀ I2 : xI, FSC I2 nw V → FSC I2 im V → I2 lr 3 = 1 → (∀ a, (a < im ∨ im + 17 ≤ a) → a ≠ lr → I2 a = I a) → (∀ k, k ≠ 3 → I2 lr k = I lr k) → P (n, sh, 0, 0) I2 (up2 R im 11 (R nw 11)) L (some (.int (nI (V 8 0)))))  : XM T zX9_image 3 [.ref lr] n sh I R L P := by
  obtain ⟨v6, v12, v10, vb, vf, vw, vm, vta, vte, vod, vrg, vdi⟩ := id hv
  have e1 := hG.g_e_nw
  have e2 := hG.g_e_im
  have e3 := hG.g_e_x
  have e4 := hG.g_e_tr
  refine x_aload_n (pc := 0) dX9_image_0 rfl rfl ?_
  refine x_getr (pc := 1) dX9_image_1 kf_RX9_18 hG.g_x rfl hG.g_f1 ?_
  refine x_aload_n (pc := 4) dX9_image_4 rfl rfl ?_
  refine x_getr (pc := 5) dX9_image_5 kf_RX9_12 hG.g_x rfl hG.g_f0 ?_
  refine x_callV (pc := 8) (As := [.ref _]) dX9_image_8 km_X6_copyFrom kv_X6_copyFrom kl_RX9_197 hG.g_im.1 rfl rfl (by decide) ⟨Nat.le_refl _, Nat.le_refl _⟩ rfl (Nat.le_of_ble_eq_true rfl) (Nat.le_of_ble_eq_true rfl) (c_scCopy hG.g_im hG.g_nw (by omega) (fun j hj => ⟨(h.1 j hj).1, vsz_le hv hj⟩) (fun I2 k1 k2 k3 k4 k5 k6 => ⟨rfl, rfl, ?_⟩))
  have f1 : FSC I2 nw V := h.keep (fun a p1 p2 => k1 a (by omega))
  have f2 : FSC I2 im V := h.copy k2 k3 k4 k5 k6
  have hG : GEO sh (up2 R im 11 (R nw 11)) lr nw im tr rd hu se ac M := hG.keepR (fun a k hk => trR.up a k (Or.inr hk))
  have r2 : bRow (up2 I2 lr 3 1) (nw + 5) (V 8 0) (V 2) := (f1.lr (b := nw) (a := lr) (k := 3) (x := 1) (by omega)).row 2 (by decide)
  refine x_aload_n (pc := 11) dX9_image_11 rfl rfl ?_
  refine x_iconst (pc := 12) (v := 1) dX9_image_12 (by decide) ?_
  refine x_put (pc := 13) dX9_image_13 kf_RX9_24 hG.g_x rfl (Or.inr (Or.inr rfl)) ?_
  refine x_aload_n (pc := 16) dX9_image_16 rfl rfl ?_
  refine x_getr (pc := 17) dX9_image_17 kf_RX9_12 hG.g_x rfl hG.g_f0 ?_
  refine x_callV (pc := 20) (As := []) dX9_image_20 km_X6_size kv_X6_size kl_RX9_94 hG.g_nw.1 rfl rfl (by decide) ⟨Nat.le_refl _, Nat.le_refl _⟩ rfl (Nat.le_of_ble_eq_true rfl) (Nat.le_of_ble_eq_true rfl) (c_size hG.g_nw r2 v6 (⟨rfl, rfl, ?_⟩))
  refine x_ireturn (pc := 23) dX9_image_23 ⟨_, rfl, rfl⟩ ⟨Nat.le_refl _, Nat.le_refl _⟩ ?_
  exact K _ (f1.lr (by omega)) (f2.lr (by omega)) up2_s (fun a p1 p2 => (up2_row p2).trans (k1 a (by omega))) (fun k p => (up2_k p).trans (congrFun (k1 lr (by omega)) k))

set_option maxHeartbeats 4000000 in
set_option maxRecDepth 100000 in
theorem c_undo1 {T : xT} {n : Nat} {sh : Nat → Nat × Nat} {I : xI} {R : xR} {L : xL} {P : xPost} {lr nw im tr rd hu se ac M : Nat} (hG : GEO sh R lr nw im tr rd hu se ac M) {V : xV} {B : Nat} (h : FSC I im V) (hv : VOK V B) (h3 : I lr 3 = 1) (K : ∀ I2 : xI, FSC I2 nw V → (∀ a, (a < nw ∨ nw + 17 ≤ a) → I2 a = I a) → P (n, sh, 0, 0) I2 (up2 R nw 11 (R im 11)) L (some (.int (nI (V 8 0)))))  : XM T zX9_undo 3 [.ref lr] n sh I R L P := by
  obtain ⟨v6, v12, v10, vb, vf, vw, vm, vta, vte, vod, vrg, vdi⟩ := id hv
  have e1 := hG.g_e_nw
  have e2 := hG.g_e_im
  have e3 := hG.g_e_x
  have e4 := hG.g_e_tr
  refine x_aload_n (pc := 0) dX9_undo_0 rfl rfl ?_
  refine x_get (pc := 1) dX9_undo_1 kf_RX9_24 hG.g_x rfl ?_
  rw [h3]
  refine x_if_ne_t (pc := 4) (tgt := 10) dX9_undo_4 (by decide) (by decide) ?_
  refine x_aload_n (pc := 10) dX9_undo_10 rfl rfl ?_
  refine x_getr (pc := 11) dX9_undo_11 kf_RX9_12 hG.g_x rfl hG.g_f0 ?_
  refine x_aload_n (pc := 14) dX9_undo_14 rfl rfl ?_
  refine x_getr (pc := 15) dX9_undo_15 kf_RX9_18 hG.g_x rfl hG.g_f1 ?_
  refine x_callV (pc := 18) (As := [.ref _]) dX9_undo_18 km_X6_copyFrom kv_X6_copyFrom kl_RX9_197 hG.g_nw.1 rfl rfl (by decide) ⟨Nat.le_refl _, Nat.le_refl _⟩ rfl (Nat.le_of_ble_eq_true rfl) (Nat.le_of_ble_eq_true rfl) (c_scCopy hG.g_nw hG.g_im (by omega) (fun j hj => ⟨(h.1 j hj).1, vsz_le hv hj⟩) (fun I2 k1 k2 k3 k4 k5 k6 => ⟨rfl, rfl, ?_⟩))
  have f1 : FSC I2 im V := h.keep (fun a p1 p2 => k1 a (by omega))
  have f2 : FSC I2 nw V := h.copy k2 k3 k4 k5 k6
  have hG : GEO sh (up2 R nw 11 (R im 11)) lr nw im tr rd hu se ac M := hG.keepR (fun a k hk => trR.up a k (Or.inr hk))
  refine x_aload_n (pc := 21) dX9_undo_21 rfl rfl ?_
  refine x_getr (pc := 22) dX9_undo_22 kf_RX9_12 hG.g_x rfl hG.g_f0 ?_
  refine x_callV (pc := 25) (As := []) dX9_undo_25 km_X6_size kv_X6_size kl_RX9_94 hG.g_nw.1 rfl rfl (by decide) ⟨Nat.le_refl _, Nat.le_refl _⟩ rfl (Nat.le_of_ble_eq_true rfl) (Nat.le_of_ble_eq_true rfl) (c_size hG.g_nw (f2.row 2 (by decide)) v6 (⟨rfl, rfl, ?_⟩))
  refine x_ireturn (pc := 28) dX9_undo_28 ⟨_, rfl, rfl⟩ ⟨Nat.le_refl _, Nat.le_refl _⟩ ?_
  exact K I2 f2 k1

set_option maxHeartbeats 4000000 in
set_option maxRecDepth 100000 in
theorem c_undo0 {T : xT} {n : Nat} {sh : Nat → Nat × Nat} {I : xI} {R : xR} {L : xL} {P : xPost} {lr nw im tr rd hu se ac M : Nat} (hG : GEO sh R lr nw im tr rd hu se ac M) (h3 : I lr 3 = 0) (K : P (n, sh, 0, 0) I R L (some (.int (-3))))  : XM T zX9_undo 3 [.ref lr] n sh I R L P := by
  refine x_aload_n (pc := 0) dX9_undo_0 rfl rfl ?_
  refine x_get (pc := 1) dX9_undo_1 kf_RX9_24 hG.g_x rfl ?_
  rw [h3]
  refine x_if_ne_f (pc := 4) (tgt := 10) dX9_undo_4 (by decide) (by decide) ?_
  refine x_bipush (pc := 7) (v := -3) dX9_undo_7 (by decide) ?_
  refine x_ireturn (pc := 9) dX9_undo_9 ⟨_, rfl, rfl⟩ ⟨Nat.le_refl _, Nat.le_refl _⟩ ?_
  exact K

def mcp (I : xI) (a b m : Nat) : xI := fun q i => if q = b ∧ i < m then I a i else I q i
theorem mcp_o {I : xI} {a b m q : Nat} (h : q ≠ b) : mcp I a b m q = I q := funext fun i => if_neg (fun z => h z.1)
theorem mcp_i {I : xI} {a b m i : Nat} (h : i < m) : mcp I a b m b i = I a i := if_pos ⟨rfl, h⟩
theorem mcp_0 {I : xI} {a b : Nat} : mcp I a b 0 = I := by
  funext q i
  exact if_neg (fun z => by omega)
theorem mcp_s {I : xI} {a b m : Nat} (h : a ≠ b) : up2 (mcp I a b m) b m (mcp I a b m a m) = mcp I a b (m + 1) := by
  funext q i
  rw [mcp_o h]
  unfold up2 mcp
  by_cases e : q = b ∧ i = m
  · rw [if_pos e, if_pos ⟨e.1, by omega⟩, e.2]
  · rw [if_neg e]
    by_cases e2 : q = b ∧ i < m
    · rw [if_pos e2, if_pos ⟨e2.1, by omega⟩]
    · rw [if_neg e2, if_neg (fun z => by
        rcases Nat.lt_succ_iff_lt_or_eq.mp z.2 with t | t
        · exact e2 ⟨z.1, t⟩
        · exact e ⟨z.1, t⟩)]

set_option maxHeartbeats 4000000 in
set_option maxRecDepth 100000 in
theorem lm_copy {T : xT} {n : Nat} {sh : Nat → Nat × Nat} {I : xI} {R : xR} {L : xL} {P : xPost} {M a b m : Nat} (hm : m < 1000) (ha : sh a = (1, m)) (hb : sh b = (1, m)) (hab : a ≠ b) (K : P (n, sh, 0, 0) (mcp I a b m) R L none)  : ∀ (w i : Nat), i + w = m → X T zX10_copy 0 0 0 P 2 [(0, .ref M), (1, .ref a), (2, .ref b), (3, .int (nI i))] [] (n, sh, 0, 0) ((mcp I a b i)) R L := by
  intro w
  induction w with
  | zero =>
    intro i hw
    have hz : i = m := by omega
    refine x_iload_n (pc := 2) dX10_copy_2 rfl rfl ?_
    refine x_aload_n (pc := 3) dX10_copy_3 rfl rfl ?_
    refine x_alen (pc := 4) (v := nI m) dX10_copy_4 hb ⟨by decide, by decide⟩ rfl ?_
    refine x_icmpn_ge_t (pc := 5) (tgt := 20) (a := i) (b := m) dX10_copy_5 (by decide) (by omega) (by omega) (by omega) ?_
    refine x_return (pc := 20) dX10_copy_20 rfl ⟨Nat.le_refl _, Nat.le_refl _⟩ ?_
    rw [hz]
    exact K
  | succ w ih =>
    intro i hw
    have hi : i < m := by omega
    refine x_iload_n (pc := 2) dX10_copy_2 rfl rfl ?_
    refine x_aload_n (pc := 3) dX10_copy_3 rfl rfl ?_
    refine x_alen (pc := 4) (v := nI m) dX10_copy_4 hb ⟨by decide, by decide⟩ rfl ?_
    refine x_icmpn_ge_f (pc := 5) (tgt := 20) (a := i) (b := m) dX10_copy_5 (by decide) (by omega) (by omega) (by omega) ?_
    refine x_aload_n (pc := 8) dX10_copy_8 rfl rfl ?_
    refine x_iload_n (pc := 9) dX10_copy_9 rfl rfl ?_
    refine x_aload_n (pc := 10) dX10_copy_10 rfl rfl ?_
    refine x_iload_n (pc := 11) dX10_copy_11 rfl rfl ?_
    refine x_ialdn (pc := 12) (a := i) dX10_copy_12 ha (by omega) (by omega) ?_
    refine x_iastn (pc := 13) (a := i) dX10_copy_13 hb (by omega) (by omega) ?_
    refine x_iinc (pc := 14) (v := nI (i + 1)) (lv' := [(0, .ref M), (1, .ref a), (2, .ref b), (3, .int (nI (i + 1)))]) dX10_copy_14 rfl (nI_1 _) (by decide) rfl ?_
    refine x_goto (pc := 17) (tgt := 2) dX10_copy_17 (by decide) ?_
    rw [mcp_s hab]
    exact ih (i + 1) (by omega)

set_option maxHeartbeats 4000000 in
set_option maxRecDepth 100000 in
theorem m_copy {T : xT} {n : Nat} {sh : Nat → Nat × Nat} {I : xI} {R : xR} {L : xL} {P : xPost} {M a b m : Nat} (hm : m < 1000) (ha : sh a = (1, m)) (hb : sh b = (1, m)) (hab : a ≠ b) (K : P (n, sh, 0, 0) (mcp I a b m) R L none)  : XM T zX10_copy 0 [.ref M, .ref a, .ref b] n sh I R L P := by
  refine x_iconst (pc := 0) (v := 0) dX10_copy_0 (by decide) ?_
  refine x_istore_n (pc := 1) (lv' := [(0, .ref M), (1, .ref a), (2, .ref b), (3, .int 0)]) dX10_copy_1 rfl (by decide) rfl ?_
  have h9 := lm_copy (T := T) (M := M) hm ha hb hab K m 0 (by omega)
  rw [mcp_0] at h9
  exact h9

/-- copies of eight arrays -/
def cpI (I : xI) (ds ss ln : Nat → Nat) (k : Nat) (J : xI) : Prop := (∀ q, (∀ t, t < k → q ≠ ds t) → J q = I q) ∧ ∀ t, t < k → ∀ i, i < ln t → J (ds t) i = I (ss t) i
theorem cpI_0 {I : xI} {ds ss ln : Nat → Nat} : cpI I ds ss ln 0 I := ⟨fun _ _ => rfl, fun t ht => absurd ht (by omega)⟩
theorem cpI_s {I J : xI} {ds ss ln : Nat → Nat} {k a b m : Nat} (h : cpI I ds ss ln k J) (h1 : ∀ t, t < k → ds k ≠ ds t) (h2 : ∀ t, t < k → ss k ≠ ds t) (ha : a = ss k) (hb : b = ds k) (hm : m = ln k) : cpI I ds ss ln (k + 1) (mcp J a b m) := by
  subst ha hb hm
  refine ⟨fun q hq => ?_, fun t ht i hi => ?_⟩
  · rw [mcp_o (hq k (by omega))]
    exact h.1 q (fun t ht => hq t (by omega))
  · rcases Nat.lt_succ_iff_lt_or_eq.mp ht with e | e
    · rw [mcp_o (fun z => h1 t e z.symm)]
      exact h.2 t e i hi
    · subst e
      rw [mcp_i hi, h.1 _ h2]
def ln8 (t : Nat) : Nat := if t < 6 then 6 else if t = 6 then 12 else 10
def nowA (M t : Nat) : Nat := if t < 6 then M + 1 + t else if t = 6 then M + 19 else M + 26
def imgA (M t : Nat) : Nat := M + 27 + t
theorem nowA_lo {M t : Nat} : M < nowA M t := by
  unfold nowA
  repeat' split
  all_goals omega
theorem nowA_hi {M t : Nat} : nowA M t < M + 27 := by
  unfold nowA
  repeat' split
  all_goals omega
theorem nowA_p {M t a : Nat} (h : a < M ∨ 26 + M < a ∨ (6 + M < a ∧ a < 14 + M) ∨ a = M + 15) : a ≠ nowA M t := by
  unfold nowA
  repeat' split
  all_goals omega
theorem nowA_ne {M t k : Nat} (h : t < k) (hk : k < 8) : nowA M k ≠ nowA M t := by
  unfold nowA
  repeat' split
  all_goals omega
theorem img_ne {M t k : Nat} (h : t < k) (hk : k < 8) : imgA M k ≠ imgA M t := by
  unfold imgA
  omega
theorem nowA_img {M t k : Nat} : nowA M k ≠ imgA M t := by
  have := @nowA_hi M k
  unfold imgA
  omega
/-- the reference's image -/
def MIM (I : xI) (M : Nat) (V : xV) : Prop := I M 50 = nI (V 8 0) ∧ I M 51 = nI (V 8 1) ∧ I M 52 = nI (V 8 2) ∧ I M 53 = nI (V 8 3) ∧ I M 54 = nI (V 8 4) ∧ I M 55 = nI (V 8 5) ∧ I M 49 = nI (V 8 6) - 1 ∧ ∀ t, t < 8 → ∀ i, i < vsz V t → I (imgA M t) i = nI (V t i)
theorem MIM.keep {I I' : xI} {M : Nat} {V : xV} (h : MIM I M V) (h1 : ∀ k, 49 ≤ k → k ≤ 55 → I' M k = I M k) (h2 : ∀ a, M + 27 ≤ a → a ≤ M + 34 → I' a = I a) : MIM I' M V := by
  obtain ⟨a1, a2, a3, a4, a5, a6, a7, a8⟩ := h
  refine ⟨(h1 50 (by decide) (by decide)).trans a1, (h1 51 (by decide) (by decide)).trans a2, (h1 52 (by decide) (by decide)).trans a3, (h1 53 (by decide) (by decide)).trans a4, (h1 54 (by decide) (by decide)).trans a5, (h1 55 (by decide) (by decide)).trans a6, (h1 49 (by decide) (by decide)).trans a7, fun t ht i hi => ?_⟩
  rw [h2 _ (by unfold imgA; omega) (by unfold imgA; omega)]
  exact a8 t ht i hi
theorem MDV.rows {I : xI} {M : Nat} {V : xV} (h : MDV I M V) : ∀ t, t < 8 → ∀ i, i < vsz V t → I (nowA M t) i = nI (V t i) := by
  obtain ⟨h1, h2, h3, h4, h5, h6, h7, h8, h9, h10⟩ := h
  intro t ht i hi
  rcases t with _|_|_|_|_|_|_|_|t
  · exact h8 0 (by decide) i hi
  · exact h8 1 (by decide) i hi
  · exact h8 2 (by decide) i hi
  · exact h8 3 (by decide) i hi
  · exact h8 4 (by decide) i hi
  · exact h8 5 (by decide) i hi
  · exact h9 i hi
  · exact h10 i hi
  · omega
theorem MDV.ofRows {I : xI} {M : Nat} {V : xV} (h1 : I M 0 = nI (V 8 0)) (h2 : I M 1 = nI (V 8 1)) (h3 : I M 2 = nI (V 8 2)) (h4 : I M 3 = nI (V 8 3)) (h5 : I M 38 = nI (V 8 4)) (h6 : I M 46 = nI (V 8 5)) (h7 : I M 11 = nI (V 8 6) - 1) (h : ∀ t, t < 8 → ∀ i, i < vsz V t → I (nowA M t) i = nI (V t i)) : MDV I M V := by
  refine ⟨h1, h2, h3, h4, h5, h6, h7, fun j hj i hi => ?_, fun i hi => h 6 (by decide) i hi, fun i hi => h 7 (by decide) i hi⟩
  have e := h j (by omega) i (by unfold vsz; rw [if_pos hj]; exact hi)
  unfold nowA at e
  rw [if_pos hj] at e
  exact e
theorem vsz_ln {V : xV} {B t : Nat} (hv : VOK V B) (ht : t < 8) : vsz V t ≤ ln8 t := by
  obtain ⟨v6, v12, v10, _⟩ := hv
  rcases t with _|_|_|_|_|_|_|_|t <;> first | exact absurd ht (by omega) | exact v6 | exact v12 | exact v10

set_option maxHeartbeats 4000000 in
set_option maxRecDepth 100000 in
theorem m_image {T : xT} {n : Nat} {sh : Nat → Nat × Nat} {I : xI} {R : xR} {L : xL} {P : xPost} {M : Nat} (hM : xModel sh R M) {V : xV} {B : Nat} (h : MDV I M V) (hv : VOK V B) (K : ∀ I2 : xI, MDV I2 M V → MIM I2 M V → I2 M 48 = 1 → (∀ a, (a < M + 27 ∨ M + 34 < a) → a ≠ M → I2 a = I a) → (∀ k, (k < 48 ∨ 55 < k) → I2 M k = I M k) → P (n, sh, 0, 0) I2 R L (some (.int (nI (V 8 0)))))  : XM T zX10_image 1 [.ref M] n sh I R L P := by
  obtain ⟨v6, v12, v10, vb, vf, vw, vm, vta, vte, vod, vrg, vdi⟩ := id hv
  refine x_aload_n (pc := 0) dX10_image_0 rfl rfl ?_
  refine x_iconst (pc := 1) (v := 1) dX10_image_1 (by decide) ?_
  refine x_put (pc := 2) dX10_image_2 kf_RX10_156 hM.s rfl (Or.inr (Or.inr rfl)) ?_
  refine x_aload_n (pc := 5) dX10_image_5 rfl rfl ?_
  refine x_aload_n (pc := 6) dX10_image_6 rfl rfl ?_
  refine x_get (pc := 7) dX10_image_7 kf_RX10_44 hM.s rfl ?_
  rw [show _ = nI (V 8 6) - 1 from ((up2_k (by decide)).trans (h.2.2.2.2.2.2.1))]
  refine x_put (pc := 10) dX10_image_10 kf_RX10_160 hM.s rfl (Or.inl kb_10_49) ?_
  refine x_aload_n (pc := 13) dX10_image_13 rfl rfl ?_
  refine x_aload_n (pc := 14) dX10_image_14 rfl rfl ?_
  refine x_get (pc := 15) dX10_image_15 kf_RX10_7 hM.s rfl ?_
  rw [show _ = nI (V 8 0) from ((up2_k (by decide)).trans ((up2_k (by decide)).trans (h.1)))]
  refine x_put (pc := 18) dX10_image_18 kf_RX10_163 hM.s rfl (Or.inl kb_10_50) ?_
  refine x_aload_n (pc := 21) dX10_image_21 rfl rfl ?_
  refine x_aload_n (pc := 22) dX10_image_22 rfl rfl ?_
  refine x_get (pc := 23) dX10_image_23 kf_RX10_13 hM.s rfl ?_
  rw [show _ = nI (V 8 1) from ((up2_k (by decide)).trans ((up2_k (by decide)).trans ((up2_k (by decide)).trans (h.2.1))))]
  refine x_put (pc := 26) dX10_image_26 kf_RX10_166 hM.s rfl (Or.inl kb_10_51) ?_
  refine x_aload_n (pc := 29) dX10_image_29 rfl rfl ?_
  refine x_aload_n (pc := 30) dX10_image_30 rfl rfl ?_
  refine x_get (pc := 31) dX10_image_31 kf_RX10_16 hM.s rfl ?_
  rw [show _ = nI (V 8 2) from ((up2_k (by decide)).trans ((up2_k (by decide)).trans ((up2_k (by decide)).trans ((up2_k (by decide)).trans (h.2.2.1)))))]
  refine x_put (pc := 34) dX10_image_34 kf_RX10_169 hM.s rfl (Or.inl kb_10_52) ?_
  refine x_aload_n (pc := 37) dX10_image_37 rfl rfl ?_
  refine x_aload_n (pc := 38) dX10_image_38 rfl rfl ?_
  refine x_get (pc := 39) dX10_image_39 kf_RX10_19 hM.s rfl ?_
  rw [show _ = nI (V 8 3) from ((up2_k (by decide)).trans ((up2_k (by decide)).trans ((up2_k (by decide)).trans ((up2_k (by decide)).trans ((up2_k (by decide)).trans (h.2.2.2.1))))))]
  refine x_put (pc := 42) dX10_image_42 kf_RX10_172 hM.s rfl (Or.inl kb_10_53) ?_
  refine x_aload_n (pc := 45) dX10_image_45 rfl rfl ?_
  refine x_aload_n (pc := 46) dX10_image_46 rfl rfl ?_
  refine x_get (pc := 47) dX10_image_47 kf_RX10_126 hM.s rfl ?_
  rw [show _ = nI (V 8 4) from ((up2_k (by decide)).trans ((up2_k (by decide)).trans ((up2_k (by decide)).trans ((up2_k (by decide)).trans ((up2_k (by decide)).trans ((up2_k (by decide)).trans (h.2.2.2.2.1)))))))]
  refine x_put (pc := 50) dX10_image_50 kf_RX10_175 hM.s rfl (Or.inl kb_10_54) ?_
  refine x_aload_n (pc := 53) dX10_image_53 rfl rfl ?_
  refine x_aload_n (pc := 54) dX10_image_54 rfl rfl ?_
  refine x_get (pc := 55) dX10_image_55 kf_RX10_150 hM.s rfl ?_
  rw [show _ = nI (V 8 5) from ((up2_k (by decide)).trans ((up2_k (by decide)).trans ((up2_k (by decide)).trans ((up2_k (by decide)).trans ((up2_k (by decide)).trans ((up2_k (by decide)).trans ((up2_k (by decide)).trans (h.2.2.2.2.2.1))))))))]
  refine x_put (pc := 58) dX10_image_58 kf_RX10_178 hM.s rfl (Or.inl kb_10_55) ?_
  have ug : ∀ a, a ≠ M → (up2 (up2 (up2 (up2 (up2 (up2 (up2 (up2 I M 48 1) M 49 (nI (V 8 6) - 1)) M 50 (nI (V 8 0))) M 51 (nI (V 8 1))) M 52 (nI (V 8 2))) M 53 (nI (V 8 3))) M 54 (nI (V 8 4))) M 55 (nI (V 8 5))) a = I a := (fun a p => (up2_row p).trans ((up2_row p).trans ((up2_row p).trans ((up2_row p).trans ((up2_row p).trans ((up2_row p).trans ((up2_row p).trans ((up2_row p)))))))))
  have uk : ∀ k, (k < 48 ∨ 55 < k) → (up2 (up2 (up2 (up2 (up2 (up2 (up2 (up2 I M 48 1) M 49 (nI (V 8 6) - 1)) M 50 (nI (V 8 0))) M 51 (nI (V 8 1))) M 52 (nI (V 8 2))) M 53 (nI (V 8 3))) M 54 (nI (V 8 4))) M 55 (nI (V 8 5))) M k = I M k := fun k p => (up2_k (by omega)).trans ((up2_k (by omega)).trans ((up2_k (by omega)).trans ((up2_k (by omega)).trans ((up2_k (by omega)).trans ((up2_k (by omega)).trans ((up2_k (by omega)).trans ((up2_k (by omega)))))))))
  have b0 := @cpI_0 (up2 (up2 (up2 (up2 (up2 (up2 (up2 (up2 I M 48 1) M 49 (nI (V 8 6) - 1)) M 50 (nI (V 8 0))) M 51 (nI (V 8 1))) M 52 (nI (V 8 2))) M 53 (nI (V 8 3))) M 54 (nI (V 8 4))) M 55 (nI (V 8 5))) (imgA M) (nowA M) ln8
  refine x_aload_n (pc := 61) dX10_image_61 rfl rfl ?_
  refine x_aload_n (pc := 62) dX10_image_62 rfl rfl ?_
  refine x_getr (pc := 63) dX10_image_63 kf_RX10_22 hM.s rfl hM.f0 ?_
  refine x_aload_n (pc := 66) dX10_image_66 rfl rfl ?_
  refine x_getr (pc := 67) dX10_image_67 kf_RX10_181 hM.s rfl hM.f26 ?_
  refine x_callV (pc := 70) (As := [.ref _, .ref _]) dX10_image_70 km_X10_copy kv_X10_copy kl_RX10_385 hM.s rfl rfl (by decide) ⟨Nat.le_refl _, Nat.le_refl _⟩ rfl (Nat.le_of_ble_eq_true rfl) (Nat.le_of_ble_eq_true rfl) (m_copy (M := M) (a := (M + 1)) (b := (M + 27)) (m := 6) (by decide) hM.s0 hM.s26 (by omega) (⟨rfl, rfl, ?_⟩))
  have b1 := cpI_s (k := 0) b0 (fun t ht => img_ne ht (by decide)) (fun t ht => nowA_img) (a := (M + 1)) (b := (M + 27)) (m := 6) rfl rfl rfl
  refine x_aload_n (pc := 73) dX10_image_73 rfl rfl ?_
  refine x_aload_n (pc := 74) dX10_image_74 rfl rfl ?_
  refine x_getr (pc := 75) dX10_image_75 kf_RX10_26 hM.s rfl hM.f1 ?_
  refine x_aload_n (pc := 78) dX10_image_78 rfl rfl ?_
  refine x_getr (pc := 79) dX10_image_79 kf_RX10_184 hM.s rfl hM.f27 ?_
  refine x_callV (pc := 82) (As := [.ref _, .ref _]) dX10_image_82 km_X10_copy kv_X10_copy kl_RX10_385 hM.s rfl rfl (by decide) ⟨Nat.le_refl _, Nat.le_refl _⟩ rfl (Nat.le_of_ble_eq_true rfl) (Nat.le_of_ble_eq_true rfl) (m_copy (M := M) (a := (M + 2)) (b := (M + 28)) (m := 6) (by decide) hM.s1 hM.s27 (by omega) (⟨rfl, rfl, ?_⟩))
  have b2 := cpI_s (k := 1) b1 (fun t ht => img_ne ht (by decide)) (fun t ht => nowA_img) (a := (M + 2)) (b := (M + 28)) (m := 6) rfl rfl rfl
  refine x_aload_n (pc := 85) dX10_image_85 rfl rfl ?_
  refine x_aload_n (pc := 86) dX10_image_86 rfl rfl ?_
  refine x_getr (pc := 87) dX10_image_87 kf_RX10_29 hM.s rfl hM.f2 ?_
  refine x_aload_n (pc := 90) dX10_image_90 rfl rfl ?_
  refine x_getr (pc := 91) dX10_image_91 kf_RX10_187 hM.s rfl hM.f28 ?_
  refine x_callV (pc := 94) (As := [.ref _, .ref _]) dX10_image_94 km_X10_copy kv_X10_copy kl_RX10_385 hM.s rfl rfl (by decide) ⟨Nat.le_refl _, Nat.le_refl _⟩ rfl (Nat.le_of_ble_eq_true rfl) (Nat.le_of_ble_eq_true rfl) (m_copy (M := M) (a := (M + 3)) (b := (M + 29)) (m := 6) (by decide) hM.s2 hM.s28 (by omega) (⟨rfl, rfl, ?_⟩))
  have b3 := cpI_s (k := 2) b2 (fun t ht => img_ne ht (by decide)) (fun t ht => nowA_img) (a := (M + 3)) (b := (M + 29)) (m := 6) rfl rfl rfl
  refine x_aload_n (pc := 97) dX10_image_97 rfl rfl ?_
  refine x_aload_n (pc := 98) dX10_image_98 rfl rfl ?_
  refine x_getr (pc := 99) dX10_image_99 kf_RX10_32 hM.s rfl hM.f3 ?_
  refine x_aload_n (pc := 102) dX10_image_102 rfl rfl ?_
  refine x_getr (pc := 103) dX10_image_103 kf_RX10_190 hM.s rfl hM.f29 ?_
  refine x_callV (pc := 106) (As := [.ref _, .ref _]) dX10_image_106 km_X10_copy kv_X10_copy kl_RX10_385 hM.s rfl rfl (by decide) ⟨Nat.le_refl _, Nat.le_refl _⟩ rfl (Nat.le_of_ble_eq_true rfl) (Nat.le_of_ble_eq_true rfl) (m_copy (M := M) (a := (M + 4)) (b := (M + 30)) (m := 6) (by decide) hM.s3 hM.s29 (by omega) (⟨rfl, rfl, ?_⟩))
  have b4 := cpI_s (k := 3) b3 (fun t ht => img_ne ht (by decide)) (fun t ht => nowA_img) (a := (M + 4)) (b := (M + 30)) (m := 6) rfl rfl rfl
  refine x_aload_n (pc := 109) dX10_image_109 rfl rfl ?_
  refine x_aload_n (pc := 110) dX10_image_110 rfl rfl ?_
  refine x_getr (pc := 111) dX10_image_111 kf_RX10_35 hM.s rfl hM.f4 ?_
  refine x_aload_n (pc := 114) dX10_image_114 rfl rfl ?_
  refine x_getr (pc := 115) dX10_image_115 kf_RX10_193 hM.s rfl hM.f30 ?_
  refine x_callV (pc := 118) (As := [.ref _, .ref _]) dX10_image_118 km_X10_copy kv_X10_copy kl_RX10_385 hM.s rfl rfl (by decide) ⟨Nat.le_refl _, Nat.le_refl _⟩ rfl (Nat.le_of_ble_eq_true rfl) (Nat.le_of_ble_eq_true rfl) (m_copy (M := M) (a := (M + 5)) (b := (M + 31)) (m := 6) (by decide) hM.s4 hM.s30 (by omega) (⟨rfl, rfl, ?_⟩))
  have b5 := cpI_s (k := 4) b4 (fun t ht => img_ne ht (by decide)) (fun t ht => nowA_img) (a := (M + 5)) (b := (M + 31)) (m := 6) rfl rfl rfl
  refine x_aload_n (pc := 121) dX10_image_121 rfl rfl ?_
  refine x_aload_n (pc := 122) dX10_image_122 rfl rfl ?_
  refine x_getr (pc := 123) dX10_image_123 kf_RX10_38 hM.s rfl hM.f5 ?_
  refine x_aload_n (pc := 126) dX10_image_126 rfl rfl ?_
  refine x_getr (pc := 127) dX10_image_127 kf_RX10_196 hM.s rfl hM.f31 ?_
  refine x_callV (pc := 130) (As := [.ref _, .ref _]) dX10_image_130 km_X10_copy kv_X10_copy kl_RX10_385 hM.s rfl rfl (by decide) ⟨Nat.le_refl _, Nat.le_refl _⟩ rfl (Nat.le_of_ble_eq_true rfl) (Nat.le_of_ble_eq_true rfl) (m_copy (M := M) (a := (M + 6)) (b := (M + 32)) (m := 6) (by decide) hM.s5 hM.s31 (by omega) (⟨rfl, rfl, ?_⟩))
  have b6 := cpI_s (k := 5) b5 (fun t ht => img_ne ht (by decide)) (fun t ht => nowA_img) (a := (M + 6)) (b := (M + 32)) (m := 6) rfl rfl rfl
  refine x_aload_n (pc := 133) dX10_image_133 rfl rfl ?_
  refine x_aload_n (pc := 134) dX10_image_134 rfl rfl ?_
  refine x_getr (pc := 135) dX10_image_135 kf_RX10_129 hM.s rfl hM.f18 ?_
  refine x_aload_n (pc := 138) dX10_image_138 rfl rfl ?_
  refine x_getr (pc := 139) dX10_image_139 kf_RX10_199 hM.s rfl hM.f32 ?_
  refine x_callV (pc := 142) (As := [.ref _, .ref _]) dX10_image_142 km_X10_copy kv_X10_copy kl_RX10_385 hM.s rfl rfl (by decide) ⟨Nat.le_refl _, Nat.le_refl _⟩ rfl (Nat.le_of_ble_eq_true rfl) (Nat.le_of_ble_eq_true rfl) (m_copy (M := M) (a := (M + 19)) (b := (M + 33)) (m := 12) (by decide) hM.s18 hM.s32 (by omega) (⟨rfl, rfl, ?_⟩))
  have b7 := cpI_s (k := 6) b6 (fun t ht => img_ne ht (by decide)) (fun t ht => nowA_img) (a := (M + 19)) (b := (M + 33)) (m := 12) rfl rfl rfl
  refine x_aload_n (pc := 145) dX10_image_145 rfl rfl ?_
  refine x_aload_n (pc := 146) dX10_image_146 rfl rfl ?_
  refine x_getr (pc := 147) dX10_image_147 kf_RX10_153 hM.s rfl hM.f25 ?_
  refine x_aload_n (pc := 150) dX10_image_150 rfl rfl ?_
  refine x_getr (pc := 151) dX10_image_151 kf_RX10_202 hM.s rfl hM.f33 ?_
  refine x_callV (pc := 154) (As := [.ref _, .ref _]) dX10_image_154 km_X10_copy kv_X10_copy kl_RX10_385 hM.s rfl rfl (by decide) ⟨Nat.le_refl _, Nat.le_refl _⟩ rfl (Nat.le_of_ble_eq_true rfl) (Nat.le_of_ble_eq_true rfl) (m_copy (M := M) (a := (M + 26)) (b := (M + 34)) (m := 10) (by decide) hM.s25 hM.s33 (by omega) (⟨rfl, rfl, ?_⟩))
  have b8 := cpI_s (k := 7) b7 (fun t ht => img_ne ht (by decide)) (fun t ht => nowA_img) (a := (M + 26)) (b := (M + 34)) (m := 10) rfl rfl rfl
  refine x_aload_n (pc := 157) dX10_image_157 rfl rfl ?_
  refine x_get (pc := 158) dX10_image_158 kf_RX10_7 hM.s rfl ?_
  rw [show _ = nI (V 8 0) from (congrFun (b8.1 M (fun t ht => by unfold imgA; omega)) 0).trans ((uk 0 (by omega)).trans h.1)]
  refine x_ireturn (pc := 161) dX10_image_161 ⟨_, rfl, rfl⟩ ⟨Nat.le_refl _, Nat.le_refl _⟩ ?_
  have fM := b8.1 M (fun t ht => by unfold imgA; omega)
  refine K _ (h.keep (fun k p => (congrFun fM k).trans (uk k (by omega))) (fun j p => (b8.1 _ (fun t ht => by unfold imgA; omega)).trans (ug _ (by omega)))) ⟨(congrFun fM 50).trans ((up2_k (by decide)).trans ((up2_k (by decide)).trans ((up2_k (by decide)).trans ((up2_k (by decide)).trans ((up2_k (by decide)).trans (up2_s)))))), (congrFun fM 51).trans ((up2_k (by decide)).trans ((up2_k (by decide)).trans ((up2_k (by decide)).trans ((up2_k (by decide)).trans (up2_s))))), (congrFun fM 52).trans ((up2_k (by decide)).trans ((up2_k (by decide)).trans ((up2_k (by decide)).trans (up2_s)))), (congrFun fM 53).trans ((up2_k (by decide)).trans ((up2_k (by decide)).trans (up2_s))), (congrFun fM 54).trans ((up2_k (by decide)).trans (up2_s)), (congrFun fM 55).trans (up2_s), (congrFun fM 49).trans ((up2_k (by decide)).trans ((up2_k (by decide)).trans ((up2_k (by decide)).trans ((up2_k (by decide)).trans ((up2_k (by decide)).trans ((up2_k (by decide)).trans (up2_s))))))), fun t ht i hi => ?_⟩ ((congrFun fM 48).trans ((up2_k (by decide)).trans ((up2_k (by decide)).trans ((up2_k (by decide)).trans ((up2_k (by decide)).trans ((up2_k (by decide)).trans ((up2_k (by decide)).trans ((up2_k (by decide)).trans (up2_s))))))))) (fun a p q => (b8.1 a (fun t ht => by unfold imgA; omega)).trans (ug a q)) (fun k p => (congrFun fM k).trans (uk k p))
  refine (b8.2 t ht i (Nat.lt_of_lt_of_le hi (vsz_ln hv ht))).trans ?_
  rw [ug _ (by have := @nowA_lo M t; omega)]
  exact h.rows t ht i hi

set_option maxHeartbeats 4000000 in
set_option maxRecDepth 100000 in
theorem m_undo1 {T : xT} {n : Nat} {sh : Nat → Nat × Nat} {I : xI} {R : xR} {L : xL} {P : xPost} {M : Nat} (hM : xModel sh R M) {V : xV} {B : Nat} (h : MIM I M V) (hv : VOK V B) (h3 : I M 48 = 1) (K : ∀ I2 : xI, MDV I2 M V → mdP M I I2 → P (n, sh, 0, 0) I2 R L (some (.int (nI (V 8 0)))))  : XM T zX10_undo 1 [.ref M] n sh I R L P := by
  obtain ⟨v6, v12, v10, vb, vf, vw, vm, vta, vte, vod, vrg, vdi⟩ := id hv
  refine x_aload_n (pc := 0) dX10_undo_0 rfl rfl ?_
  refine x_get (pc := 1) dX10_undo_1 kf_RX10_156 hM.s rfl ?_
  rw [h3]
  refine x_if_ne_t (pc := 4) (tgt := 10) dX10_undo_4 (by decide) (by decide) ?_
  refine x_aload_n (pc := 10) dX10_undo_10 rfl rfl ?_
  refine x_aload_n (pc := 11) dX10_undo_11 rfl rfl ?_
  refine x_get (pc := 12) dX10_undo_12 kf_RX10_160 hM.s rfl ?_
  rw [show _ = nI (V 8 6) - 1 from (h.2.2.2.2.2.2.1)]
  refine x_put (pc := 15) dX10_undo_15 kf_RX10_44 hM.s rfl (Or.inl kb_10_11) ?_
  refine x_aload_n (pc := 18) dX10_undo_18 rfl rfl ?_
  refine x_aload_n (pc := 19) dX10_undo_19 rfl rfl ?_
  refine x_get (pc := 20) dX10_undo_20 kf_RX10_163 hM.s rfl ?_
  rw [show _ = nI (V 8 0) from ((up2_k (by decide)).trans (h.1))]
  refine x_put (pc := 23) dX10_undo_23 kf_RX10_7 hM.s rfl (Or.inl kb_10_0) ?_
  refine x_aload_n (pc := 26) dX10_undo_26 rfl rfl ?_
  refine x_aload_n (pc := 27) dX10_undo_27 rfl rfl ?_
  refine x_get (pc := 28) dX10_undo_28 kf_RX10_166 hM.s rfl ?_
  rw [show _ = nI (V 8 1) from ((up2_k (by decide)).trans ((up2_k (by decide)).trans (h.2.1)))]
  refine x_put (pc := 31) dX10_undo_31 kf_RX10_13 hM.s rfl (Or.inl kb_10_1) ?_
  refine x_aload_n (pc := 34) dX10_undo_34 rfl rfl ?_
  refine x_aload_n (pc := 35) dX10_undo_35 rfl rfl ?_
  refine x_get (pc := 36) dX10_undo_36 kf_RX10_169 hM.s rfl ?_
  rw [show _ = nI (V 8 2) from ((up2_k (by decide)).trans ((up2_k (by decide)).trans ((up2_k (by decide)).trans (h.2.2.1))))]
  refine x_put (pc := 39) dX10_undo_39 kf_RX10_16 hM.s rfl (Or.inl kb_10_2) ?_
  refine x_aload_n (pc := 42) dX10_undo_42 rfl rfl ?_
  refine x_aload_n (pc := 43) dX10_undo_43 rfl rfl ?_
  refine x_get (pc := 44) dX10_undo_44 kf_RX10_172 hM.s rfl ?_
  rw [show _ = nI (V 8 3) from ((up2_k (by decide)).trans ((up2_k (by decide)).trans ((up2_k (by decide)).trans ((up2_k (by decide)).trans (h.2.2.2.1)))))]
  refine x_put (pc := 47) dX10_undo_47 kf_RX10_19 hM.s rfl (Or.inl kb_10_3) ?_
  refine x_aload_n (pc := 50) dX10_undo_50 rfl rfl ?_
  refine x_aload_n (pc := 51) dX10_undo_51 rfl rfl ?_
  refine x_get (pc := 52) dX10_undo_52 kf_RX10_175 hM.s rfl ?_
  rw [show _ = nI (V 8 4) from ((up2_k (by decide)).trans ((up2_k (by decide)).trans ((up2_k (by decide)).trans ((up2_k (by decide)).trans ((up2_k (by decide)).trans (h.2.2.2.2.1))))))]
  refine x_put (pc := 55) dX10_undo_55 kf_RX10_126 hM.s rfl (Or.inl kb_10_38) ?_
  refine x_aload_n (pc := 58) dX10_undo_58 rfl rfl ?_
  refine x_aload_n (pc := 59) dX10_undo_59 rfl rfl ?_
  refine x_get (pc := 60) dX10_undo_60 kf_RX10_178 hM.s rfl ?_
  rw [show _ = nI (V 8 5) from ((up2_k (by decide)).trans ((up2_k (by decide)).trans ((up2_k (by decide)).trans ((up2_k (by decide)).trans ((up2_k (by decide)).trans ((up2_k (by decide)).trans (h.2.2.2.2.2.1)))))))]
  refine x_put (pc := 63) dX10_undo_63 kf_RX10_150 hM.s rfl (Or.inl kb_10_46) ?_
  have ug : ∀ a, a ≠ M → (up2 (up2 (up2 (up2 (up2 (up2 (up2 I M 11 (nI (V 8 6) - 1)) M 0 (nI (V 8 0))) M 1 (nI (V 8 1))) M 2 (nI (V 8 2))) M 3 (nI (V 8 3))) M 38 (nI (V 8 4))) M 46 (nI (V 8 5))) a = I a := (fun a p => (up2_row p).trans ((up2_row p).trans ((up2_row p).trans ((up2_row p).trans ((up2_row p).trans ((up2_row p).trans ((up2_row p))))))))
  have uk : ∀ k, (3 < k ∧ k ≠ 11 ∧ k ≠ 38 ∧ k ≠ 46) → (up2 (up2 (up2 (up2 (up2 (up2 (up2 I M 11 (nI (V 8 6) - 1)) M 0 (nI (V 8 0))) M 1 (nI (V 8 1))) M 2 (nI (V 8 2))) M 3 (nI (V 8 3))) M 38 (nI (V 8 4))) M 46 (nI (V 8 5))) M k = I M k := fun k p => (up2_k (by omega)).trans ((up2_k (by omega)).trans ((up2_k (by omega)).trans ((up2_k (by omega)).trans ((up2_k (by omega)).trans ((up2_k (by omega)).trans ((up2_k (by omega))))))))
  have b0 := @cpI_0 (up2 (up2 (up2 (up2 (up2 (up2 (up2 I M 11 (nI (V 8 6) - 1)) M 0 (nI (V 8 0))) M 1 (nI (V 8 1))) M 2 (nI (V 8 2))) M 3 (nI (V 8 3))) M 38 (nI (V 8 4))) M 46 (nI (V 8 5))) (nowA M) (imgA M) ln8
  refine x_aload_n (pc := 66) dX10_undo_66 rfl rfl ?_
  refine x_aload_n (pc := 67) dX10_undo_67 rfl rfl ?_
  refine x_getr (pc := 68) dX10_undo_68 kf_RX10_181 hM.s rfl hM.f26 ?_
  refine x_aload_n (pc := 71) dX10_undo_71 rfl rfl ?_
  refine x_getr (pc := 72) dX10_undo_72 kf_RX10_22 hM.s rfl hM.f0 ?_
  refine x_callV (pc := 75) (As := [.ref _, .ref _]) dX10_undo_75 km_X10_copy kv_X10_copy kl_RX10_385 hM.s rfl rfl (by decide) ⟨Nat.le_refl _, Nat.le_refl _⟩ rfl (Nat.le_of_ble_eq_true rfl) (Nat.le_of_ble_eq_true rfl) (m_copy (M := M) (a := (M + 27)) (b := (M + 1)) (m := 6) (by decide) hM.s26 hM.s0 (by omega) (⟨rfl, rfl, ?_⟩))
  have b1 := cpI_s (k := 0) b0 (fun t ht => nowA_ne ht (by decide)) (fun t ht => nowA_img.symm) (a := (M + 27)) (b := (M + 1)) (m := 6) rfl rfl rfl
  refine x_aload_n (pc := 78) dX10_undo_78 rfl rfl ?_
  refine x_aload_n (pc := 79) dX10_undo_79 rfl rfl ?_
  refine x_getr (pc := 80) dX10_undo_80 kf_RX10_184 hM.s rfl hM.f27 ?_
  refine x_aload_n (pc := 83) dX10_undo_83 rfl rfl ?_
  refine x_getr (pc := 84) dX10_undo_84 kf_RX10_26 hM.s rfl hM.f1 ?_
  refine x_callV (pc := 87) (As := [.ref _, .ref _]) dX10_undo_87 km_X10_copy kv_X10_copy kl_RX10_385 hM.s rfl rfl (by decide) ⟨Nat.le_refl _, Nat.le_refl _⟩ rfl (Nat.le_of_ble_eq_true rfl) (Nat.le_of_ble_eq_true rfl) (m_copy (M := M) (a := (M + 28)) (b := (M + 2)) (m := 6) (by decide) hM.s27 hM.s1 (by omega) (⟨rfl, rfl, ?_⟩))
  have b2 := cpI_s (k := 1) b1 (fun t ht => nowA_ne ht (by decide)) (fun t ht => nowA_img.symm) (a := (M + 28)) (b := (M + 2)) (m := 6) rfl rfl rfl
  refine x_aload_n (pc := 90) dX10_undo_90 rfl rfl ?_
  refine x_aload_n (pc := 91) dX10_undo_91 rfl rfl ?_
  refine x_getr (pc := 92) dX10_undo_92 kf_RX10_187 hM.s rfl hM.f28 ?_
  refine x_aload_n (pc := 95) dX10_undo_95 rfl rfl ?_
  refine x_getr (pc := 96) dX10_undo_96 kf_RX10_29 hM.s rfl hM.f2 ?_
  refine x_callV (pc := 99) (As := [.ref _, .ref _]) dX10_undo_99 km_X10_copy kv_X10_copy kl_RX10_385 hM.s rfl rfl (by decide) ⟨Nat.le_refl _, Nat.le_refl _⟩ rfl (Nat.le_of_ble_eq_true rfl) (Nat.le_of_ble_eq_true rfl) (m_copy (M := M) (a := (M + 29)) (b := (M + 3)) (m := 6) (by decide) hM.s28 hM.s2 (by omega) (⟨rfl, rfl, ?_⟩))
  have b3 := cpI_s (k := 2) b2 (fun t ht => nowA_ne ht (by decide)) (fun t ht => nowA_img.symm) (a := (M + 29)) (b := (M + 3)) (m := 6) rfl rfl rfl
  refine x_aload_n (pc := 102) dX10_undo_102 rfl rfl ?_
  refine x_aload_n (pc := 103) dX10_undo_103 rfl rfl ?_
  refine x_getr (pc := 104) dX10_undo_104 kf_RX10_190 hM.s rfl hM.f29 ?_
  refine x_aload_n (pc := 107) dX10_undo_107 rfl rfl ?_
  refine x_getr (pc := 108) dX10_undo_108 kf_RX10_32 hM.s rfl hM.f3 ?_
  refine x_callV (pc := 111) (As := [.ref _, .ref _]) dX10_undo_111 km_X10_copy kv_X10_copy kl_RX10_385 hM.s rfl rfl (by decide) ⟨Nat.le_refl _, Nat.le_refl _⟩ rfl (Nat.le_of_ble_eq_true rfl) (Nat.le_of_ble_eq_true rfl) (m_copy (M := M) (a := (M + 30)) (b := (M + 4)) (m := 6) (by decide) hM.s29 hM.s3 (by omega) (⟨rfl, rfl, ?_⟩))
  have b4 := cpI_s (k := 3) b3 (fun t ht => nowA_ne ht (by decide)) (fun t ht => nowA_img.symm) (a := (M + 30)) (b := (M + 4)) (m := 6) rfl rfl rfl
  refine x_aload_n (pc := 114) dX10_undo_114 rfl rfl ?_
  refine x_aload_n (pc := 115) dX10_undo_115 rfl rfl ?_
  refine x_getr (pc := 116) dX10_undo_116 kf_RX10_193 hM.s rfl hM.f30 ?_
  refine x_aload_n (pc := 119) dX10_undo_119 rfl rfl ?_
  refine x_getr (pc := 120) dX10_undo_120 kf_RX10_35 hM.s rfl hM.f4 ?_
  refine x_callV (pc := 123) (As := [.ref _, .ref _]) dX10_undo_123 km_X10_copy kv_X10_copy kl_RX10_385 hM.s rfl rfl (by decide) ⟨Nat.le_refl _, Nat.le_refl _⟩ rfl (Nat.le_of_ble_eq_true rfl) (Nat.le_of_ble_eq_true rfl) (m_copy (M := M) (a := (M + 31)) (b := (M + 5)) (m := 6) (by decide) hM.s30 hM.s4 (by omega) (⟨rfl, rfl, ?_⟩))
  have b5 := cpI_s (k := 4) b4 (fun t ht => nowA_ne ht (by decide)) (fun t ht => nowA_img.symm) (a := (M + 31)) (b := (M + 5)) (m := 6) rfl rfl rfl
  refine x_aload_n (pc := 126) dX10_undo_126 rfl rfl ?_
  refine x_aload_n (pc := 127) dX10_undo_127 rfl rfl ?_
  refine x_getr (pc := 128) dX10_undo_128 kf_RX10_196 hM.s rfl hM.f31 ?_
  refine x_aload_n (pc := 131) dX10_undo_131 rfl rfl ?_
  refine x_getr (pc := 132) dX10_undo_132 kf_RX10_38 hM.s rfl hM.f5 ?_
  refine x_callV (pc := 135) (As := [.ref _, .ref _]) dX10_undo_135 km_X10_copy kv_X10_copy kl_RX10_385 hM.s rfl rfl (by decide) ⟨Nat.le_refl _, Nat.le_refl _⟩ rfl (Nat.le_of_ble_eq_true rfl) (Nat.le_of_ble_eq_true rfl) (m_copy (M := M) (a := (M + 32)) (b := (M + 6)) (m := 6) (by decide) hM.s31 hM.s5 (by omega) (⟨rfl, rfl, ?_⟩))
  have b6 := cpI_s (k := 5) b5 (fun t ht => nowA_ne ht (by decide)) (fun t ht => nowA_img.symm) (a := (M + 32)) (b := (M + 6)) (m := 6) rfl rfl rfl
  refine x_aload_n (pc := 138) dX10_undo_138 rfl rfl ?_
  refine x_aload_n (pc := 139) dX10_undo_139 rfl rfl ?_
  refine x_getr (pc := 140) dX10_undo_140 kf_RX10_199 hM.s rfl hM.f32 ?_
  refine x_aload_n (pc := 143) dX10_undo_143 rfl rfl ?_
  refine x_getr (pc := 144) dX10_undo_144 kf_RX10_129 hM.s rfl hM.f18 ?_
  refine x_callV (pc := 147) (As := [.ref _, .ref _]) dX10_undo_147 km_X10_copy kv_X10_copy kl_RX10_385 hM.s rfl rfl (by decide) ⟨Nat.le_refl _, Nat.le_refl _⟩ rfl (Nat.le_of_ble_eq_true rfl) (Nat.le_of_ble_eq_true rfl) (m_copy (M := M) (a := (M + 33)) (b := (M + 19)) (m := 12) (by decide) hM.s32 hM.s18 (by omega) (⟨rfl, rfl, ?_⟩))
  have b7 := cpI_s (k := 6) b6 (fun t ht => nowA_ne ht (by decide)) (fun t ht => nowA_img.symm) (a := (M + 33)) (b := (M + 19)) (m := 12) rfl rfl rfl
  refine x_aload_n (pc := 150) dX10_undo_150 rfl rfl ?_
  refine x_aload_n (pc := 151) dX10_undo_151 rfl rfl ?_
  refine x_getr (pc := 152) dX10_undo_152 kf_RX10_202 hM.s rfl hM.f33 ?_
  refine x_aload_n (pc := 155) dX10_undo_155 rfl rfl ?_
  refine x_getr (pc := 156) dX10_undo_156 kf_RX10_153 hM.s rfl hM.f25 ?_
  refine x_callV (pc := 159) (As := [.ref _, .ref _]) dX10_undo_159 km_X10_copy kv_X10_copy kl_RX10_385 hM.s rfl rfl (by decide) ⟨Nat.le_refl _, Nat.le_refl _⟩ rfl (Nat.le_of_ble_eq_true rfl) (Nat.le_of_ble_eq_true rfl) (m_copy (M := M) (a := (M + 34)) (b := (M + 26)) (m := 10) (by decide) hM.s33 hM.s25 (by omega) (⟨rfl, rfl, ?_⟩))
  have b8 := cpI_s (k := 7) b7 (fun t ht => nowA_ne ht (by decide)) (fun t ht => nowA_img.symm) (a := (M + 34)) (b := (M + 26)) (m := 10) rfl rfl rfl
  refine x_aload_n (pc := 162) dX10_undo_162 rfl rfl ?_
  refine x_get (pc := 163) dX10_undo_163 kf_RX10_7 hM.s rfl ?_
  have fM := b8.1 M (fun t ht => by have := @nowA_lo M t; omega)
  rw [show _ = nI (V 8 0) from (congrFun fM 0).trans ((up2_k (by decide)).trans ((up2_k (by decide)).trans ((up2_k (by decide)).trans ((up2_k (by decide)).trans ((up2_k (by decide)).trans (up2_s))))))]
  refine x_ireturn (pc := 166) dX10_undo_166 ⟨_, rfl, rfl⟩ ⟨Nat.le_refl _, Nat.le_refl _⟩ ?_
  refine K _ (MDV.ofRows ((congrFun fM 0).trans ((up2_k (by decide)).trans ((up2_k (by decide)).trans ((up2_k (by decide)).trans ((up2_k (by decide)).trans ((up2_k (by decide)).trans (up2_s))))))) ((congrFun fM 1).trans ((up2_k (by decide)).trans ((up2_k (by decide)).trans ((up2_k (by decide)).trans ((up2_k (by decide)).trans (up2_s)))))) ((congrFun fM 2).trans ((up2_k (by decide)).trans ((up2_k (by decide)).trans ((up2_k (by decide)).trans (up2_s))))) ((congrFun fM 3).trans ((up2_k (by decide)).trans ((up2_k (by decide)).trans (up2_s)))) ((congrFun fM 38).trans ((up2_k (by decide)).trans (up2_s))) ((congrFun fM 46).trans (up2_s)) ((congrFun fM 11).trans ((up2_k (by decide)).trans ((up2_k (by decide)).trans ((up2_k (by decide)).trans ((up2_k (by decide)).trans ((up2_k (by decide)).trans ((up2_k (by decide)).trans (up2_s)))))))) (fun t ht i hi => ?_)) ⟨fun a p => (b8.1 a (fun t ht => nowA_p p)).trans (ug a (by omega)), fun k p => (congrFun fM k).trans (uk k (by omega))⟩
  refine (b8.2 t ht i (Nat.lt_of_lt_of_le hi (vsz_ln hv ht))).trans ?_
  rw [ug _ (by unfold imgA; omega)]
  exact h.2.2.2.2.2.2.2 t ht i hi

set_option maxHeartbeats 4000000 in
set_option maxRecDepth 100000 in
theorem m_undo0 {T : xT} {n : Nat} {sh : Nat → Nat × Nat} {I : xI} {R : xR} {L : xL} {P : xPost} {M : Nat} (hM : xModel sh R M) (h3 : I M 48 = 0) (K : P (n, sh, 0, 0) I R L (some (.int (-3))))  : XM T zX10_undo 1 [.ref M] n sh I R L P := by
  refine x_aload_n (pc := 0) dX10_undo_0 rfl rfl ?_
  refine x_get (pc := 1) dX10_undo_1 kf_RX10_156 hM.s rfl ?_
  rw [h3]
  refine x_if_ne_f (pc := 4) (tgt := 10) dX10_undo_4 (by decide) (by decide) ?_
  refine x_bipush (pc := 7) (v := -3) dX10_undo_7 (by decide) ?_
  refine x_ireturn (pc := 9) dX10_undo_9 ⟨_, rfl, rfl⟩ ⟨Nat.le_refl _, Nat.le_refl _⟩ ?_
  exact K

