/-! ===== safe, from ===== -/
theorem isb_toInt {nb : Nat} (h : nb ≤ 6) : (nI nb - 1).toInt = (nb : Int) - 1 := by
  rcases nb with _|_|_|_|_|_|_|nb <;> first | rfl | exact absurd h (by omega)
theorem isb_in {nb : Nat} {x : Int32} (h : nb ≤ 6) (h1 : ¬ x < 0) (h2 : ¬ nI nb - 1 < x) : ∃ k : Nat, k < nb ∧ x = nI k := by
  obtain ⟨j, hj, rfl⟩ := nI_of h1
  refine ⟨j, ?_, rfl⟩
  have := Int32.not_lt.mp h2
  have := Int32.le_iff_toInt_le.mp this
  rw [isb_toInt h, nI_toInt hj] at this
  omega
theorem isb_out {nb : Nat} {x : Int32} (h : nb ≤ 6) (h1 : x < 0 ∨ nI nb - 1 < x) : x < 0 ∨ nI nb ≤ x := by
  refine h1.imp id (fun q => ?_)
  have := Int32.lt_iff_toInt_lt.mp q
  rw [isb_toInt h] at this
  refine Int32.le_iff_toInt_le.mpr ?_
  rw [nI_toInt (by omega)]
  omega
/-- safe -/
def safeP (V : xV) (o : Option xAR) (x : Nat) : Bool := !(held (V 8 0) (V 2) x) && decide (∀ i, i < V 8 0 → ¬ (deedN (V 8 0) (V 0) (V 1) (V 2) (V 3) (V 4) x (V 8 2) 0 (lnO o) i).1 = 2)
theorem safeP_t {V : xV} {o : Option xAR} {x : Nat} (h1 : held (V 8 0) (V 2) x = false) (h2 : ∀ i, i < V 8 0 → ¬ (deedN (V 8 0) (V 0) (V 1) (V 2) (V 3) (V 4) x (V 8 2) 0 (lnO o) i).1 = 2) : safeP V o x = true := by
  unfold safeP
  rw [h1, decide_eq_true h2]
  rfl
theorem safeP_h {V : xV} {o : Option xAR} {x : Nat} (h1 : held (V 8 0) (V 2) x = true) : safeP V o x = false := by
  unfold safeP
  rw [h1]
  rfl
theorem safeP_c {V : xV} {o : Option xAR} {x : Nat} (h2 : ∃ i, i < V 8 0 ∧ (deedN (V 8 0) (V 0) (V 1) (V 2) (V 3) (V 4) x (V 8 2) 0 (lnO o) i).1 = 2) : safeP V o x = false := by
  unfold safeP
  rw [decide_eq_false (fun q => h2.elim (fun a ha => q a ha.1 ha.2)), Bool.and_false]
def sfM (p : Nat → Bool) : Nat → Int64
  | 0 => 0
  | k + 1 => if p k = true then sfM p k ||| xlshl 1 (nI k) else sfM p k
theorem sfM_t {p : Nat → Bool} {k : Nat} (h : p k = true) : sfM p (k + 1) = sfM p k ||| xlshl 1 (nI k) := if_pos h
theorem sfM_f {p : Nat → Bool} {k : Nat} (h : p k = false) : sfM p (k + 1) = sfM p k := if_neg (by rw [h]; decide)
def spSafe (V : xV) (o : Option xAR) : Int64 := sfM (safeP V o) 36
/-- from -/
def fromP (V : xV) (o : Option xAR) (b x : Nat) : Bool := !(held (V 8 0) (V 2) x) && decide (∀ i, i < V 8 0 → (¬ (deedN (V 8 0) (V 0) (V 1) (V 2) (V 3) (V 4) x (V 8 2) 0 (lnO o) i).1 = 0 ↔ i = b))
theorem fromP_t {V : xV} {o : Option xAR} {b x : Nat} (h1 : held (V 8 0) (V 2) x = false) (h2 : ∀ i, i < V 8 0 → (¬ (deedN (V 8 0) (V 0) (V 1) (V 2) (V 3) (V 4) x (V 8 2) 0 (lnO o) i).1 = 0 ↔ i = b)) : fromP V o b x = true := by
  unfold fromP
  rw [h1, decide_eq_true h2]
  rfl
theorem fromP_h {V : xV} {o : Option xAR} {b x : Nat} (h1 : held (V 8 0) (V 2) x = true) : fromP V o b x = false := by
  unfold fromP
  rw [h1]
  rfl
theorem fromP_c {V : xV} {o : Option xAR} {b x : Nat} (h2 : ∃ i, i < V 8 0 ∧ ¬ (¬ (deedN (V 8 0) (V 0) (V 1) (V 2) (V 3) (V 4) x (V 8 2) 0 (lnO o) i).1 = 0 ↔ i = b)) : fromP V o b x = false := by
  unfold fromP
  rw [decide_eq_false (fun q => h2.elim (fun a ha => ha.2 (q a ha.1))), Bool.and_false]
def spFrom (V : xV) (o : Option xAR) (x : Int32) : Int32 := match idx (V 8 0) x with
  | none => -1
  | some b => if fstP (fromP V o b) 36 < 36 then nI (fstP (fromP V o b) 36) else -5
theorem spFrom_of {V : xV} {o : Option xAR} {b k : Nat} (hb : b < V 8 0) (h6 : V 8 0 ≤ 6) (h : fromP V o b k = true) (hj : ∀ j, j < k → fromP V o b j = false) (hk : k < 36) : spFrom V o (nI b) = nI k := by
  unfold spFrom
  rw [idx_s hb (by omega)]
  show (if _ then _ else _) = _
  rw [fstP_of h hj 36 hk, if_pos hk]
theorem spFrom_no {V : xV} {o : Option xAR} {b : Nat} (hb : b < V 8 0) (h6 : V 8 0 ≤ 6) (hj : ∀ j, j < 36 → fromP V o b j = false) : spFrom V o (nI b) = -5 := by
  unfold spFrom
  rw [idx_s hb (by omega)]
  show (if _ then _ else _) = _
  rw [fstP_no 36 hj]
  rfl
theorem spFrom_n {V : xV} {o : Option xAR} {x : Int32} (h : x < 0 ∨ nI (V 8 0) ≤ x) : spFrom V o x = -1 := by
  unfold spFrom
  rw [idx_n h]
theorem FSC.keepN {sh : Nat → Nat × Nat} {R : xR} {I J : xI} {lr nw im tr rd hu se ac M : Nat} {V : xV} (hG : GEO sh R lr nw im tr rd hu se ac M) (h : FSC I nw V) (f : trP tr I J) : FSC J nw V := by
  have e1 := hG.g_e_nw
  have e2 := hG.g_e_tr
  exact h.keep (fun a p1 p2 => f a (by omega))

set_option maxHeartbeats 4000000 in
set_option maxRecDepth 100000 in
theorem l_safe {T : xT} {n : Nat} {sh : Nat → Nat × Nat} {I : xI} {R : xR} {L : xL} {P : xPost} {lr nw im tr rd hu se ac M : Nat} (hG : GEO sh R lr nw im tr rd hu se ac M) {V : xV} {B : Nat} {ars : Nat → xAR} (h : FSC I nw V) (hv : VOK V B) (K : ∀ I2 : xI, trP tr I I2 → P (n, sh, 0, 0) I2 R L (some (.long (spSafe V (rgVal ars V)))))  : ∀ (w i : Nat), i + w = 36 → ∀ (J : xI) (t : Nat), SC sh R J tr (V 8 0) (V 0) (V 1) (V 2) (V 3) (V 4) t (V 8 2) 0 (lnO (rgVal ars V)) → trP tr I J → X T zX9_safe 6 0 0 P 15 [(0, .ref lr), (1, .long (sfM (safeP V (rgVal ars V)) i)), (3, .int (nI i))] [] (n, sh, 0, 0) (J) R L := by
  obtain ⟨v6, v12, v10, vb, vf, vw, vm, vta, vte, vod, vrg, vdi⟩ := id hv
  intro w
  induction w with
  | zero =>
    intro i hw J t hj fj
    have hz : i = 36 := by omega
    refine x_iload_n (pc := 15) dX9_safe_15 rfl rfl ?_
    refine x_bipush (pc := 16) (v := 36) dX9_safe_16 (by decide) ?_
    refine x_icmpn_ge_t (pc := 18) (tgt := 62) (a := i) (b := 36) dX9_safe_18 (by decide) (by omega) (by decide) (by omega) ?_
    refine x_lload_n (pc := 62) dX9_safe_62 rfl rfl ?_
    refine x_lreturn (pc := 63) dX9_safe_63 rfl ⟨Nat.le_refl _, Nat.le_refl _⟩ ?_
    rw [hz]
    exact K J fj
  | succ w ih =>
    intro i hw J t hj fj
    have hi : i < 36 := by omega
    refine x_iload_n (pc := 15) dX9_safe_15 rfl rfl ?_
    refine x_bipush (pc := 16) (v := 36) dX9_safe_16 (by decide) ?_
    refine x_icmpn_ge_f (pc := 18) (tgt := 62) (a := i) (b := 36) dX9_safe_18 (by decide) (by omega) (by decide) (by omega) ?_
    refine x_aload_n (pc := 21) dX9_safe_21 rfl rfl ?_
    refine x_getr (pc := 22) dX9_safe_22 kf_RX9_21 hG.g_x rfl hG.g_f2 ?_
    refine x_iload_n (pc := 25) dX9_safe_25 rfl rfl ?_
    refine x_put (pc := 26) dX9_safe_26 kf_RX9_88 hG.g_tr.1 rfl (Or.inl kb_6_8) ?_
    have hc2 := hj.setTamer hi
    have ff : trP tr I (up2 J tr 8 (nI i)) := fun a ha => by rw [up2_row (by omega)]; exact fj a ha
    have hfn := h.keepN hG ff
    refine x_aload_n (pc := 29) dX9_safe_29 rfl rfl ?_
    refine x_getr (pc := 30) dX9_safe_30 kf_RX9_12 hG.g_x rfl hG.g_f0 ?_
    refine x_iload_n (pc := 33) dX9_safe_33 rfl rfl ?_
    refine x_callV (pc := 34) (As := [.int _]) dX9_safe_34 km_X6_holdsBeast kv_X6_holdsBeast kl_RX9_85 hG.g_nw.1 rfl rfl (by decide) ⟨Nat.le_refl _, Nat.le_refl _⟩ rfl (Nat.le_of_ble_eq_true rfl) (Nat.le_of_ble_eq_true rfl) (c_holdsBeast (x := i) hG.g_nw (hfn.row 2 (by decide)) v6 (fun i hi => (vb i hi).2.2.1) hi (fun hh => ⟨rfl, rfl, ?_⟩) (fun hf => ⟨rfl, rfl, ?_⟩))
    · skip
      refine x_if_ne_t (pc := 37) (tgt := 56) dX9_safe_37 (by decide) (by decide) ?_
      refine x_iinc (pc := 56) (v := nI (i + 1)) (lv' := [(0, .ref lr), (1, .long (sfM (safeP V (rgVal ars V)) i)), (3, .int (nI (i + 1)))]) dX9_safe_56 rfl (nI_1 _) (by decide) rfl ?_
      refine x_goto (pc := 59) (tgt := 15) dX9_safe_59 (by decide) ?_
      first
      | (have h9 := ih (i + 1) (by omega) I2 i (hc2.keep f1 f2) (fun a ha => by rw [f1 a (by omega) (by omega)]; exact ff a ha); rw [sfM_f (safeP_c hy)] at h9; exact h9)
      | (have h9 := ih (i + 1) (by omega) (up2 J tr 8 (nI i)) i hc2 ff; rw [sfM_f (safeP_h hh)] at h9; exact h9)
    · skip
      refine x_if_ne_f (pc := 37) (tgt := 56) dX9_safe_37 (by decide) (by decide) ?_
      refine x_aload_n (pc := 40) dX9_safe_40 rfl rfl ?_
      refine x_getr (pc := 41) dX9_safe_41 kf_RX9_21 hG.g_x rfl hG.g_f2 ?_
      refine x_callV (pc := 44) (As := []) dX9_safe_44 km_X6_anyComes kv_X6_anyComes kl_RX9_200 hG.g_tr.1 rfl rfl (by decide) ⟨Nat.le_refl _, Nat.le_refl _⟩ rfl (Nat.le_of_ble_eq_true rfl) (Nat.le_of_ble_eq_true rfl) (c_anyComes hc2 (fun I2 hy f1 f2 => ⟨rfl, rfl, ?_⟩) (fun I2 hx f1 f2 => ⟨rfl, rfl, ?_⟩))
      · skip
        refine x_if_ne_t (pc := 47) (tgt := 56) dX9_safe_47 (by decide) (by decide) ?_
        refine x_iinc (pc := 56) (v := nI (i + 1)) (lv' := [(0, .ref lr), (1, .long (sfM (safeP V (rgVal ars V)) i)), (3, .int (nI (i + 1)))]) dX9_safe_56 rfl (nI_1 _) (by decide) rfl ?_
        refine x_goto (pc := 59) (tgt := 15) dX9_safe_59 (by decide) ?_
        first
        | (have h9 := ih (i + 1) (by omega) I2 i (hc2.keep f1 f2) (fun a ha => by rw [f1 a (by omega) (by omega)]; exact ff a ha); rw [sfM_f (safeP_c hy)] at h9; exact h9)
        | (have h9 := ih (i + 1) (by omega) (up2 J tr 8 (nI i)) i hc2 ff; rw [sfM_f (safeP_h hh)] at h9; exact h9)
      · skip
        refine x_if_ne_f (pc := 47) (tgt := 56) dX9_safe_47 (by decide) (by decide) ?_
        refine x_lload_n (pc := 50) dX9_safe_50 rfl rfl ?_
        refine x_lconst (pc := 51) (v := 1) dX9_safe_51 (by decide) ?_
        refine x_iload_n (pc := 52) dX9_safe_52 rfl rfl ?_
        refine x_lshl (pc := 53) dX9_safe_53 ?_
        refine x_lor (pc := 54) dX9_safe_54 ?_
        refine x_topl (fun v55 ev55 => ?_)
        refine x_lstore_n (pc := 55) (lv' := [(0, .ref lr), (1, .long v55), (3, .int (nI i))]) dX9_safe_55 rfl (by decide) rfl ?_
        refine x_iinc (pc := 56) (v := nI (i + 1)) (lv' := [(0, .ref lr), (1, .long v55), (3, .int (nI (i + 1)))]) dX9_safe_56 rfl (nI_1 _) (by decide) rfl ?_
        refine x_goto (pc := 59) (tgt := 15) dX9_safe_59 (by decide) ?_
        have h9 := ih (i + 1) (by omega) I2 i (hc2.keep f1 f2) (fun a ha => by rw [f1 a (by omega) (by omega)]; exact ff a ha)
        rw [sfM_t (safeP_t hf hx)] at h9
        subst ev55
        exact h9

set_option maxHeartbeats 4000000 in
set_option maxRecDepth 100000 in
theorem c_safe {T : xT} {n : Nat} {sh : Nat → Nat × Nat} {I : xI} {R : xR} {L : xL} {P : xPost} {lr nw im tr rd hu se ac M : Nat} (hG : GEO sh R lr nw im tr rd hu se ac M) {V : xV} {B rc : Nat} {ars : Nat → xAR} (h : FSC I nw V) (hv : VOK V B) (hB : B < 800000) (hr : cRings I lr rc ars) (hV6 : V 8 6 ≤ rc) (hRn : R nw 11 = rgRef V) (K : ∀ (I2 : xI) (R2 : xR), trP tr I I2 → trR tr R R2 → P (n, sh, 0, 0) I2 R2 L (some (.long (spSafe V (rgVal ars V)))))  : XM T zX9_safe 6 [.ref lr] n sh I R L P := by
  obtain ⟨v6, v12, v10, vb, vf, vw, vm, vta, vte, vod, vrg, vdi⟩ := id hv
  refine x_lconst (pc := 0) (v := 0) dX9_safe_0 (by decide) ?_
  refine x_lstore_n (pc := 1) (lv' := [(0, .ref lr), (1, .long 0)]) dX9_safe_1 rfl (by decide) rfl ?_
  refine x_aload_n (pc := 2) dX9_safe_2 rfl rfl ?_
  refine x_getr (pc := 3) dX9_safe_3 kf_RX9_21 hG.g_x rfl hG.g_f2 ?_
  refine x_aload_n (pc := 6) dX9_safe_6 rfl rfl ?_
  refine x_getr (pc := 7) dX9_safe_7 kf_RX9_12 hG.g_x rfl hG.g_f0 ?_
  refine x_callV (pc := 10) (As := [.ref _]) dX9_safe_10 km_X6_copyFrom kv_X6_copyFrom kl_RX9_197 hG.g_tr.1 rfl rfl (by decide) ⟨Nat.le_refl _, Nat.le_refl _⟩ rfl (Nat.le_of_ble_eq_true rfl) (Nat.le_of_ble_eq_true rfl) (c_scCopy hG.g_tr hG.g_nw (by have e1 := hG.g_e_tr; have e2 := hG.g_e_nw; omega) (fun j hj => ⟨(h.1 j hj).1, vsz_le hv hj⟩) (fun I2 k1 k2 k3 k4 k5 k6 => ⟨rfl, rfl, ?_⟩))
  refine x_iconst (pc := 13) (v := 0) dX9_safe_13 (by decide) ?_
  refine x_istore_n (pc := 14) (lv' := [(0, .ref lr), (1, .long 0), (3, .int 0)]) dX9_safe_14 rfl (by decide) rfl ?_
  exact l_safe (hG.keepR (fun a k hk => trR.up a k (Or.inr hk))) (h.keepN hG (fun a ha => k1 a (by omega))) hv (fun I3 f3 => K I3 _ (fun a ha => (f3 a ha).trans (k1 a (by omega))) trR.up) 36 0 (by omega) I2 (V 8 1) (h.toTr hG hv hB hr hV6 hRn k1 k2 k3 k4 k5 k6) (fun _ _ => rfl)

set_option maxHeartbeats 4000000 in
set_option maxRecDepth 100000 in
theorem l_from {T : xT} {n : Nat} {sh : Nat → Nat × Nat} {I : xI} {R : xR} {L : xL} {P : xPost} {lr nw im tr rd hu se ac M : Nat} (hG : GEO sh R lr nw im tr rd hu se ac M) {V : xV} {B : Nat} {ars : Nat → xAR} (h : FSC I nw V) (hv : VOK V B) {b : Nat} (hb : b < V 8 0) (K : ∀ I2 : xI, trP tr I I2 → P (n, sh, 0, 0) I2 R L (some (.int (spFrom V (rgVal ars V) (nI b)))))  : ∀ (w i : Nat), i + w = 36 → ∀ (J : xI) (t : Nat), SC sh R J tr (V 8 0) (V 0) (V 1) (V 2) (V 3) (V 4) t (V 8 2) 0 (lnO (rgVal ars V)) → trP tr I J → (∀ j, j < i → fromP V (rgVal ars V) b j = false) → X T zX9_from 6 0 0 P 26 [(0, .ref lr), (1, .int (nI b)), (2, .int (nI i))] [] (n, sh, 0, 0) (J) R L := by
  obtain ⟨v6, v12, v10, vb, vf, vw, vm, vta, vte, vod, vrg, vdi⟩ := id hv
  intro w
  induction w with
  | zero =>
    intro i hw J t hj fj hno
    have hz : i = 36 := by omega
    refine x_iload_n (pc := 26) dX9_from_26 rfl rfl ?_
    refine x_bipush (pc := 27) (v := 36) dX9_from_27 (by decide) ?_
    refine x_icmpn_ge_t (pc := 29) (tgt := 70) (a := i) (b := 36) dX9_from_29 (by decide) (by omega) (by decide) (by omega) ?_
    refine x_bipush (pc := 70) (v := -5) dX9_from_70 (by decide) ?_
    refine x_ireturn (pc := 72) dX9_from_72 ⟨_, rfl, rfl⟩ ⟨Nat.le_refl _, Nat.le_refl _⟩ ?_
    rw [hz] at hno
    have h9 := K J fj
    rw [spFrom_no hb v6 hno] at h9
    exact h9
  | succ w ih =>
    intro i hw J t hj fj hno
    have hi : i < 36 := by omega
    refine x_iload_n (pc := 26) dX9_from_26 rfl rfl ?_
    refine x_bipush (pc := 27) (v := 36) dX9_from_27 (by decide) ?_
    refine x_icmpn_ge_f (pc := 29) (tgt := 70) (a := i) (b := 36) dX9_from_29 (by decide) (by omega) (by decide) (by omega) ?_
    refine x_aload_n (pc := 32) dX9_from_32 rfl rfl ?_
    refine x_getr (pc := 33) dX9_from_33 kf_RX9_21 hG.g_x rfl hG.g_f2 ?_
    refine x_iload_n (pc := 36) dX9_from_36 rfl rfl ?_
    refine x_put (pc := 37) dX9_from_37 kf_RX9_88 hG.g_tr.1 rfl (Or.inl kb_6_8) ?_
    have hc2 := hj.setTamer hi
    have ff : trP tr I (up2 J tr 8 (nI i)) := fun a ha => by rw [up2_row (by omega)]; exact fj a ha
    have hfn := h.keepN hG ff
    refine x_aload_n (pc := 40) dX9_from_40 rfl rfl ?_
    refine x_getr (pc := 41) dX9_from_41 kf_RX9_12 hG.g_x rfl hG.g_f0 ?_
    refine x_iload_n (pc := 44) dX9_from_44 rfl rfl ?_
    refine x_callV (pc := 45) (As := [.int _]) dX9_from_45 km_X6_holdsBeast kv_X6_holdsBeast kl_RX9_85 hG.g_nw.1 rfl rfl (by decide) ⟨Nat.le_refl _, Nat.le_refl _⟩ rfl (Nat.le_of_ble_eq_true rfl) (Nat.le_of_ble_eq_true rfl) (c_holdsBeast (x := i) hG.g_nw (hfn.row 2 (by decide)) v6 (fun i hi => (vb i hi).2.2.1) hi (fun hh => ⟨rfl, rfl, ?_⟩) (fun hf => ⟨rfl, rfl, ?_⟩))
    · skip
      refine x_if_ne_t (pc := 48) (tgt := 64) dX9_from_48 (by decide) (by decide) ?_
      refine x_iinc (pc := 64) (v := nI (i + 1)) (lv' := [(0, .ref lr), (1, .int (nI b)), (2, .int (nI (i + 1)))]) dX9_from_64 rfl (nI_1 _) (by decide) rfl ?_
      refine x_goto (pc := 67) (tgt := 26) dX9_from_67 (by decide) ?_
      first
      | exact ih (i + 1) (by omega) I2 i (hc2.keep f1 f2) (fun a ha => by rw [f1 a (by omega) (by omega)]; exact ff a ha) (fun j hj9 => (Nat.lt_succ_iff_lt_or_eq.mp hj9).elim (hno j) (fun e9 => by subst e9; exact fromP_c hx))
      | exact ih (i + 1) (by omega) (up2 J tr 8 (nI i)) i hc2 ff (fun j hj9 => (Nat.lt_succ_iff_lt_or_eq.mp hj9).elim (hno j) (fun e9 => by subst e9; exact fromP_h hh))
    · skip
      refine x_if_ne_f (pc := 48) (tgt := 64) dX9_from_48 (by decide) (by decide) ?_
      refine x_aload_n (pc := 51) dX9_from_51 rfl rfl ?_
      refine x_getr (pc := 52) dX9_from_52 kf_RX9_21 hG.g_x rfl hG.g_f2 ?_
      refine x_iload_n (pc := 55) dX9_from_55 rfl rfl ?_
      refine x_callV (pc := 56) (As := [.int _]) dX9_from_56 km_X6_leavesAlone kv_X6_leavesAlone kl_RX9_203 hG.g_tr.1 rfl rfl (by decide) ⟨Nat.le_refl _, Nat.le_refl _⟩ rfl (Nat.le_of_ble_eq_true rfl) (Nat.le_of_ble_eq_true rfl) (c_leavesAlone (x := b) (by omega) hc2 (fun I2 hy f1 f2 => ⟨rfl, rfl, ?_⟩) (fun I2 hx f1 f2 => ⟨rfl, rfl, ?_⟩))
      · skip
        refine x_if_eq_f (pc := 59) (tgt := 64) dX9_from_59 (by decide) (by decide) ?_
        refine x_iload_n (pc := 62) dX9_from_62 rfl rfl ?_
        refine x_ireturn (pc := 63) dX9_from_63 ⟨_, rfl, rfl⟩ ⟨Nat.le_refl _, Nat.le_refl _⟩ ?_
        have h9 := K I2 (fun a ha => by rw [f1 a (by omega) (by omega)]; exact ff a ha)
        rw [spFrom_of (k := i) hb v6 (fromP_t hf hy) hno hi] at h9
        exact h9
      · skip
        refine x_if_eq_t (pc := 59) (tgt := 64) dX9_from_59 (by decide) (by decide) ?_
        refine x_iinc (pc := 64) (v := nI (i + 1)) (lv' := [(0, .ref lr), (1, .int (nI b)), (2, .int (nI (i + 1)))]) dX9_from_64 rfl (nI_1 _) (by decide) rfl ?_
        refine x_goto (pc := 67) (tgt := 26) dX9_from_67 (by decide) ?_
        first
        | exact ih (i + 1) (by omega) I2 i (hc2.keep f1 f2) (fun a ha => by rw [f1 a (by omega) (by omega)]; exact ff a ha) (fun j hj9 => (Nat.lt_succ_iff_lt_or_eq.mp hj9).elim (hno j) (fun e9 => by subst e9; exact fromP_c hx))
        | exact ih (i + 1) (by omega) (up2 J tr 8 (nI i)) i hc2 ff (fun j hj9 => (Nat.lt_succ_iff_lt_or_eq.mp hj9).elim (hno j) (fun e9 => by subst e9; exact fromP_h hh))

set_option maxHeartbeats 4000000 in
set_option maxRecDepth 100000 in
theorem c_from {T : xT} {n : Nat} {sh : Nat → Nat × Nat} {I : xI} {R : xR} {L : xL} {P : xPost} {lr nw im tr rd hu se ac M : Nat} (hG : GEO sh R lr nw im tr rd hu se ac M) {V : xV} {B rc : Nat} {ars : Nat → xAR} (h : FSC I nw V) (hv : VOK V B) (hB : B < 800000) (hr : cRings I lr rc ars) (hV6 : V 8 6 ≤ rc) (hRn : R nw 11 = rgRef V) {x : Int32} (K : ∀ (I2 : xI) (R2 : xR), trP tr I I2 → trR tr R R2 → P (n, sh, 0, 0) I2 R2 L (some (.int (spFrom V (rgVal ars V) x))))  : XM T zX9_from 6 [.ref lr, .int x] n sh I R L P := by
  obtain ⟨v6, v12, v10, vb, vf, vw, vm, vta, vte, vod, vrg, vdi⟩ := id hv
  refine x_aload_n (pc := 0) dX9_from_0 rfl rfl ?_
  refine x_getr (pc := 1) dX9_from_1 kf_RX9_12 hG.g_x rfl hG.g_f0 ?_
  refine x_iload_n (pc := 4) dX9_from_4 rfl rfl ?_
  refine x_callV (pc := 5) (As := [.int _]) dX9_from_5 km_X6_isBeast kv_X6_isBeast kl_RX9_102 hG.g_nw.1 rfl rfl (by decide) ⟨Nat.le_refl _, Nat.le_refl _⟩ rfl (Nat.le_of_ble_eq_true rfl) (Nat.le_of_ble_eq_true rfl) (c_isBeast hG.g_nw (h.row 2 (by decide)) v6 (fun k hk ek => ⟨rfl, rfl, ?_⟩) (fun h1 => ⟨rfl, rfl, ?_⟩))
  · skip
    subst ek
    refine x_if_ne_t (pc := 8) (tgt := 13) dX9_from_8 (by decide) (by decide) ?_
    refine x_aload_n (pc := 13) dX9_from_13 rfl rfl ?_
    refine x_getr (pc := 14) dX9_from_14 kf_RX9_21 hG.g_x rfl hG.g_f2 ?_
    refine x_aload_n (pc := 17) dX9_from_17 rfl rfl ?_
    refine x_getr (pc := 18) dX9_from_18 kf_RX9_12 hG.g_x rfl hG.g_f0 ?_
    refine x_callV (pc := 21) (As := [.ref _]) dX9_from_21 km_X6_copyFrom kv_X6_copyFrom kl_RX9_197 hG.g_tr.1 rfl rfl (by decide) ⟨Nat.le_refl _, Nat.le_refl _⟩ rfl (Nat.le_of_ble_eq_true rfl) (Nat.le_of_ble_eq_true rfl) (c_scCopy hG.g_tr hG.g_nw (by have e1 := hG.g_e_tr; have e2 := hG.g_e_nw; omega) (fun j hj => ⟨(h.1 j hj).1, vsz_le hv hj⟩) (fun I2 k1 k2 k3 k4 k5 k6 => ⟨rfl, rfl, ?_⟩))
    refine x_iconst (pc := 24) (v := 0) dX9_from_24 (by decide) ?_
    refine x_istore_n (pc := 25) (lv' := [(0, .ref lr), (1, .int (nI k)), (2, .int 0)]) dX9_from_25 rfl (by decide) rfl ?_
    exact l_from (hG.keepR (fun a k hk => trR.up a k (Or.inr hk))) (h.keepN hG (fun a ha => k1 a (by omega))) hv hk (fun I3 f3 => K I3 _ (fun a ha => (f3 a ha).trans (k1 a (by omega))) trR.up) 36 0 (by omega) I2 (V 8 1) (h.toTr hG hv hB hr hV6 hRn k1 k2 k3 k4 k5 k6) (fun _ _ => rfl) (fun j hj => absurd hj (by omega))
  · skip
    refine x_if_ne_f (pc := 8) (tgt := 13) dX9_from_8 (by decide) (by decide) ?_
    refine x_iconst (pc := 11) (v := -1) dX9_from_11 (by decide) ?_
    refine x_ireturn (pc := 12) dX9_from_12 ⟨_, rfl, rfl⟩ ⟨Nat.le_refl _, Nat.le_refl _⟩ ?_
    have h9 := K I R (fun _ _ => rfl) trR.rf
    rw [spFrom_n h1] at h9
    exact h9

