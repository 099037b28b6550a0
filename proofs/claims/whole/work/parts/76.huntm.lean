/-! ===== shortest: the reference ===== -/
def kpI (I : xI) (M d k : Nat) : xI := fun a j => if a = M + 20 ∧ 6 * d ≤ j ∧ j < 6 * d + k then I (M + 16) (j - 6 * d) else I a j
theorem kpI_0 {I : xI} {M d : Nat} : kpI I M d 0 = I := by
  funext a j
  exact if_neg (fun q => by omega)
theorem kpI_o {I : xI} {M d k a : Nat} (h : a ≠ M + 20) : kpI I M d k a = I a := funext fun j => if_neg (fun q => h q.1)
theorem kpI_s {I : xI} {M d k : Nat} : up2 (kpI I M d k) (M + 20) (6 * d + k) (kpI I M d k (M + 16) k) = kpI I M d (k + 1) := by
  rw [kpI_o (show M + 16 ≠ M + 20 by omega)]
  funext a j
  unfold up2 kpI
  by_cases e : a = M + 20 ∧ j = 6 * d + k
  · rw [if_pos e, if_pos ⟨e.1, by omega, by omega⟩, e.2]
    exact congrArg (I (M + 16)) (by omega)
  · rw [if_neg e]
    by_cases e2 : a = M + 20 ∧ 6 * d ≤ j ∧ j < 6 * d + k
    · rw [if_pos e2, if_pos ⟨e2.1, e2.2.1, by omega⟩]
    · rw [if_neg e2, if_neg (fun z => by
        by_cases t : j = 6 * d + k
        · exact e ⟨z.1, t⟩
        · exact e2 ⟨z.1, z.2.1, by omega⟩)]
def lbI (I : xI) (M d k : Nat) : xI := fun a j => if a = M + 16 ∧ j < k then I (M + 20) (6 * d + j) else I a j
theorem lbI_0 {I : xI} {M d : Nat} : lbI I M d 0 = I := by
  funext a j
  exact if_neg (fun q => by omega)
theorem lbI_o {I : xI} {M d k a : Nat} (h : a ≠ M + 16) : lbI I M d k a = I a := funext fun j => if_neg (fun q => h q.1)
theorem lbI_s {I : xI} {M d k : Nat} : up2 (lbI I M d k) (M + 16) k (lbI I M d k (M + 20) (6 * d + k)) = lbI I M d (k + 1) := by
  rw [lbI_o (show M + 20 ≠ M + 16 by omega)]
  funext a j
  unfold up2 lbI
  by_cases e : a = M + 16 ∧ j = k
  · rw [if_pos e, if_pos ⟨e.1, by omega⟩, e.2]
  · rw [if_neg e]
    by_cases e2 : a = M + 16 ∧ j < k
    · rw [if_pos e2, if_pos ⟨e2.1, by omega⟩]
    · rw [if_neg e2, if_neg (fun z => by
        by_cases t : j = k
        · exact e ⟨z.1, t⟩
        · exact e2 ⟨z.1, by omega⟩)]

set_option maxHeartbeats 4000000 in
set_option maxRecDepth 100000 in
theorem lm_keep {T : xT} {n : Nat} {sh : Nat → Nat × Nat} {I : xI} {R : xR} {L : xL} {P : xPost} {M d : Nat} (hM : xModel sh R M) (hd : d ≤ 5) (K : P (n, sh, 0, 0) (up2 (up2 (kpI I M d 6) (M + 21) d (I M 27)) (M + 22) d 0) R L none)  : ∀ (w i : Nat), i + w = 6 → X T zX10_keep 0 0 0 P 2 [(0, .ref M), (1, .int (nI d)), (2, .int (nI i))] [] (n, sh, 0, 0) ((kpI I M d i)) R L := by
  intro w
  induction w with
  | zero =>
    intro i hw
    have hz : i = 6 := by omega
    refine x_iload_n (pc := 2) dX10_keep_2 rfl rfl ?_
    refine x_bipush (pc := 3) (v := 6) dX10_keep_3 (by decide) ?_
    refine x_icmpn_ge_t (pc := 5) (tgt := 31) (a := i) (b := 6) dX10_keep_5 (by decide) (by omega) (by decide) (by omega) ?_
    refine x_aload_n (pc := 31) dX10_keep_31 rfl rfl ?_
    refine x_getr (pc := 32) dX10_keep_32 kf_RX10_135 hM.s rfl hM.f20 ?_
    refine x_iload_n (pc := 35) dX10_keep_35 rfl rfl ?_
    refine x_aload_n (pc := 36) dX10_keep_36 rfl rfl ?_
    refine x_get (pc := 37) dX10_keep_37 kf_RX10_92 hM.s rfl ?_
    refine x_iastn (pc := 40) (a := d) dX10_keep_40 hM.s20 (by omega) (by omega) ?_
    refine x_aload_n (pc := 41) dX10_keep_41 rfl rfl ?_
    refine x_getr (pc := 42) dX10_keep_42 kf_RX10_138 hM.s rfl hM.f21 ?_
    refine x_iload_n (pc := 45) dX10_keep_45 rfl rfl ?_
    refine x_iconst (pc := 46) (v := 0) dX10_keep_46 (by decide) ?_
    refine x_iastn (pc := 47) (a := d) dX10_keep_47 hM.s21 (by omega) (by omega) ?_
    refine x_return (pc := 48) dX10_keep_48 rfl ⟨Nat.le_refl _, Nat.le_refl _⟩ ?_
    rw [hz]
    rw [kpI_o (show M ≠ M + 20 by omega)]
    exact K
  | succ w ih =>
    intro i hw
    have hi : i < 6 := by omega
    refine x_iload_n (pc := 2) dX10_keep_2 rfl rfl ?_
    refine x_bipush (pc := 3) (v := 6) dX10_keep_3 (by decide) ?_
    refine x_icmpn_ge_f (pc := 5) (tgt := 31) (a := i) (b := 6) dX10_keep_5 (by decide) (by omega) (by decide) (by omega) ?_
    refine x_aload_n (pc := 8) dX10_keep_8 rfl rfl ?_
    refine x_getr (pc := 9) dX10_keep_9 kf_RX10_132 hM.s rfl hM.f19 ?_
    refine x_bipush (pc := 12) (v := 6) dX10_keep_12 (by decide) ?_
    refine x_iload_n (pc := 14) dX10_keep_14 rfl rfl ?_
    refine x_imuln (pc := 15) (a := 6) (b := d) dX10_keep_15 ?_
    refine x_iload_n (pc := 16) dX10_keep_16 rfl rfl ?_
    refine x_iaddn (pc := 17) (a := (6 * d)) (b := i) dX10_keep_17 ?_
    refine x_aload_n (pc := 18) dX10_keep_18 rfl rfl ?_
    refine x_getr (pc := 19) dX10_keep_19 kf_RX10_101 hM.s rfl hM.f15 ?_
    refine x_iload_n (pc := 22) dX10_keep_22 rfl rfl ?_
    refine x_ialdn (pc := 23) (a := i) dX10_keep_23 hM.s15 (by omega) (by omega) ?_
    refine x_iastn (pc := 24) (a := ((6 * d) + i)) dX10_keep_24 hM.s19 (by omega) (by omega) ?_
    refine x_iinc (pc := 25) (v := nI (i + 1)) (lv' := [(0, .ref M), (1, .int (nI d)), (2, .int (nI (i + 1)))]) dX10_keep_25 rfl (nI_1 _) (by decide) rfl ?_
    refine x_goto (pc := 28) (tgt := 2) dX10_keep_28 (by decide) ?_
    rw [kpI_s]
    exact ih (i + 1) (by omega)

set_option maxHeartbeats 4000000 in
set_option maxRecDepth 100000 in
theorem m_keep {T : xT} {n : Nat} {sh : Nat → Nat × Nat} {I : xI} {R : xR} {L : xL} {P : xPost} {M d : Nat} (hM : xModel sh R M) (hd : d ≤ 5) (K : P (n, sh, 0, 0) (up2 (up2 (kpI I M d 6) (M + 21) d (I M 27)) (M + 22) d 0) R L none)  : XM T zX10_keep 0 [.ref M, .int (nI d)] n sh I R L P := by
  refine x_iconst (pc := 0) (v := 0) dX10_keep_0 (by decide) ?_
  refine x_istore_n (pc := 1) (lv' := [(0, .ref M), (1, .int (nI d)), (2, .int 0)]) dX10_keep_1 rfl (by decide) rfl ?_
  have h9 := lm_keep (T := T) (n := n) hM hd K 6 0 (by omega)
  rw [kpI_0] at h9
  exact h9

set_option maxHeartbeats 4000000 in
set_option maxRecDepth 100000 in
theorem lm_lay {T : xT} {n : Nat} {sh : Nat → Nat × Nat} {I : xI} {R : xR} {L : xL} {P : xPost} {M d : Nat} (hM : xModel sh R M) (hd : d ≤ 5) (K : P (n, sh, 0, 0) (up2 (up2 (lbI I M d 6) M 27 (I (M + 21) d)) M 28 (I M 2 + nI d)) R L none)  : ∀ (w i : Nat), i + w = 6 → X T zX10_layBack 0 0 0 P 2 [(0, .ref M), (1, .int (nI d)), (2, .int (nI i))] [] (n, sh, 0, 0) ((lbI I M d i)) R L := by
  intro w
  induction w with
  | zero =>
    intro i hw
    have hz : i = 6 := by omega
    refine x_iload_n (pc := 2) dX10_layBack_2 rfl rfl ?_
    refine x_bipush (pc := 3) (v := 6) dX10_layBack_3 (by decide) ?_
    refine x_icmpn_ge_t (pc := 5) (tgt := 31) (a := i) (b := 6) dX10_layBack_5 (by decide) (by omega) (by decide) (by omega) ?_
    refine x_aload_n (pc := 31) dX10_layBack_31 rfl rfl ?_
    refine x_aload_n (pc := 32) dX10_layBack_32 rfl rfl ?_
    refine x_getr (pc := 33) dX10_layBack_33 kf_RX10_135 hM.s rfl hM.f20 ?_
    refine x_iload_n (pc := 36) dX10_layBack_36 rfl rfl ?_
    refine x_ialdn (pc := 37) (a := d) dX10_layBack_37 hM.s20 (by omega) (by omega) ?_
    rw [lbI_o (show M + 21 ≠ M + 16 by omega)]
    refine x_put (pc := 38) dX10_layBack_38 kf_RX10_92 hM.s rfl (Or.inl kb_10_27) ?_
    refine x_aload_n (pc := 41) dX10_layBack_41 rfl rfl ?_
    refine x_aload_n (pc := 42) dX10_layBack_42 rfl rfl ?_
    refine x_get (pc := 43) dX10_layBack_43 kf_RX10_16 hM.s rfl ?_
    refine x_iload_n (pc := 46) dX10_layBack_46 rfl rfl ?_
    refine x_iadd (pc := 47) dX10_layBack_47 ?_
    rw [show up2 (lbI I M d i) M 27 (I (M + 21) d) M 2 = I M 2 from (up2_k (by decide)).trans (congrFun (lbI_o (by omega)) 2)]
    refine x_put (pc := 48) dX10_layBack_48 kf_RX10_95 hM.s rfl (Or.inl kb_10_28) ?_
    refine x_return (pc := 51) dX10_layBack_51 rfl ⟨Nat.le_refl _, Nat.le_refl _⟩ ?_
    rw [hz]
    exact K
  | succ w ih =>
    intro i hw
    have hi : i < 6 := by omega
    refine x_iload_n (pc := 2) dX10_layBack_2 rfl rfl ?_
    refine x_bipush (pc := 3) (v := 6) dX10_layBack_3 (by decide) ?_
    refine x_icmpn_ge_f (pc := 5) (tgt := 31) (a := i) (b := 6) dX10_layBack_5 (by decide) (by omega) (by decide) (by omega) ?_
    refine x_aload_n (pc := 8) dX10_layBack_8 rfl rfl ?_
    refine x_getr (pc := 9) dX10_layBack_9 kf_RX10_101 hM.s rfl hM.f15 ?_
    refine x_iload_n (pc := 12) dX10_layBack_12 rfl rfl ?_
    refine x_aload_n (pc := 13) dX10_layBack_13 rfl rfl ?_
    refine x_getr (pc := 14) dX10_layBack_14 kf_RX10_132 hM.s rfl hM.f19 ?_
    refine x_bipush (pc := 17) (v := 6) dX10_layBack_17 (by decide) ?_
    refine x_iload_n (pc := 19) dX10_layBack_19 rfl rfl ?_
    refine x_imuln (pc := 20) (a := 6) (b := d) dX10_layBack_20 ?_
    refine x_iload_n (pc := 21) dX10_layBack_21 rfl rfl ?_
    refine x_iaddn (pc := 22) (a := (6 * d)) (b := i) dX10_layBack_22 ?_
    refine x_ialdn (pc := 23) (a := ((6 * d) + i)) dX10_layBack_23 hM.s19 (by omega) (by omega) ?_
    refine x_iastn (pc := 24) (a := i) dX10_layBack_24 hM.s15 (by omega) (by omega) ?_
    refine x_iinc (pc := 25) (v := nI (i + 1)) (lv' := [(0, .ref M), (1, .int (nI d)), (2, .int (nI (i + 1)))]) dX10_layBack_25 rfl (nI_1 _) (by decide) rfl ?_
    refine x_goto (pc := 28) (tgt := 2) dX10_layBack_28 (by decide) ?_
    rw [lbI_s]
    exact ih (i + 1) (by omega)

set_option maxHeartbeats 4000000 in
set_option maxRecDepth 100000 in
theorem m_layBack {T : xT} {n : Nat} {sh : Nat → Nat × Nat} {I : xI} {R : xR} {L : xL} {P : xPost} {M d : Nat} (hM : xModel sh R M) (hd : d ≤ 5) (K : P (n, sh, 0, 0) (up2 (up2 (lbI I M d 6) M 27 (I (M + 21) d)) M 28 (I M 2 + nI d)) R L none)  : XM T zX10_layBack 0 [.ref M, .int (nI d)] n sh I R L P := by
  refine x_iconst (pc := 0) (v := 0) dX10_layBack_0 (by decide) ?_
  refine x_istore_n (pc := 1) (lv' := [(0, .ref M), (1, .int (nI d)), (2, .int 0)]) dX10_layBack_1 rfl (by decide) rfl ?_
  have h9 := lm_lay (T := T) (n := n) hM hd K 6 0 (by omega)
  rw [lbI_0] at h9
  exact h9

/-- what a search may alter -/
def mdS (M : Nat) (I J : xI) : Prop := (∀ a, a ≠ M → a ≠ M + 16 → a ≠ M + 17 → a ≠ M + 18 → a ≠ M + 20 → a ≠ M + 21 → a ≠ M + 22 → a ≠ M + 23 → J a = I a) ∧ ∀ k, (k < 27 ∨ 37 < k) → J M k = I M k
theorem mdS.rf {M : Nat} {I : xI} : mdS M I I := ⟨fun _ _ _ _ _ _ _ _ _ => rfl, fun _ _ => rfl⟩
theorem mdS.tr {M : Nat} {I J J' : xI} (h : mdS M I J) (h' : mdS M J J') : mdS M I J' := ⟨fun a p1 p2 p3 p4 p5 p6 p7 p8 => (h'.1 a p1 p2 p3 p4 p5 p6 p7 p8).trans (h.1 a p1 p2 p3 p4 p5 p6 p7 p8), fun k p => (h'.2 k p).trans (h.2 k p)⟩
theorem mdS.of {M : Nat} {I J : xI} (h : mdT M I J) : mdS M I J := ⟨fun a p1 p2 p3 p4 _ _ _ _ => h.1 a p1 p2 p3 p4, h.2⟩
theorem mdS.mdP {M : Nat} {I J : xI} (h : mdS M I J) : mdP M I J := ⟨fun a p => h.1 a (by omega) (by omega) (by omega) (by omega) (by omega) (by omega) (by omega) (by omega), fun k p => h.2 k (by omega)⟩
theorem mdS.arr {M a k : Nat} {x : Int32} {I : xI} (ha : M + 20 ≤ a ∧ a ≤ M + 23) : mdS M I (up2 I a k x) := ⟨fun q p1 p2 p3 p4 p5 p6 p7 p8 => up2_row (by omega), fun j p => by rw [up2_row (by omega)]⟩
theorem mdS.kp {M d k : Nat} {I : xI} : mdS M I (kpI I M d k) := ⟨fun q p1 p2 p3 p4 p5 p6 p7 p8 => kpI_o p5, fun j p => by rw [kpI_o (by omega)]⟩
theorem mdS.lb {M d k : Nat} {I : xI} : mdS M I (lbI I M d k) := ⟨fun q p1 p2 p3 p4 p5 p6 p7 p8 => lbI_o p2, fun j p => by rw [lbI_o (by omega)]⟩
theorem MDV.keepS {I J : xI} {M : Nat} {V : xV} (h : MDV I M V) (f : mdS M I J) : MDV J M V := h.keep (fun k hk => f.2 k (by omega)) (fun j hj => f.1 _ (by omega) (by omega) (by omega) (by omega) (by omega) (by omega) (by omega) (by omega))
theorem MS.keepH {sh : Nat → Nat × Nat} {R : xR} {I I' : xI} {M nb ta te lo : Nat} {ki ve ce sto hu : Nat → Nat} {o : Option xAR} (h : MS sh R I M nb ki ve ce sto hu ta te lo o) (hk : ∀ a, (a < M + 20 ∨ M + 24 ≤ a) → I' a = I a) : MS sh R I' M nb ki ve ce sto hu ta te lo o := by
  obtain ⟨a1, a2, a3, a4, a5, a6, a7, a8, a9, a10, a11, a12, a13, a14, a15, a16⟩ := h
  have k0 : I' M = I M := hk M (by omega)
  have k : ∀ j, j < 20 → I' (M + j) = I (M + j) := fun j p => hk _ (by omega)
  exact ⟨a1, a2, by rw [k0]; exact a3, fun i hi => by rw [k 17 (by omega)]; exact a4 i hi, fun i hi => by rw [k 2 (by omega)]; exact a5 i hi, fun i hi => by rw [k 16 (by omega)]; exact a6 i hi, fun i hi => by rw [k 4 (by omega)]; exact a7 i hi, fun i hi => by rw [k 5 (by omega)]; exact a8 i hi, a9, by rw [k0]; exact a10, a11, by rw [k0]; exact a12, a13, by rw [k0]; exact a14, a15, a16.keep (by rw [k0]) (fun j p1 p2 => k j (by omega))⟩
/-- a node of the search -/
def ND (I : xI) (M nb d : Nat) (s : xS) : Prop := (∀ i, i < nb → I (M + 20) (6 * d + i) = nI (s.1 i)) ∧ I (M + 21) d = nI s.2
theorem MS.lay {sh : Nat → Nat × Nat} {R : xR} {I : xI} {M nb ta te te2 lo d : Nat} {ki ve ce sto hu : Nat → Nat} {o : Option xAR} {s : xS} (h : MS sh R I M nb ki ve ce sto hu ta te lo o) (hn : ND I M nb d s) (hs2 : s.2 < 36) (hs1 : ∀ i, i < nb → s.1 i < 36) (h2 : I M 2 = nI te2) (ht : te2 + d < 1000000) : MS sh R (up2 (up2 (lbI I M d 6) M 27 (I (M + 21) d)) M 28 (I M 2 + nI d)) M nb ki ve s.1 sto hu s.2 (te2 + d) lo o := by
  obtain ⟨a1, a2, a3, a4, a5, a6, a7, a8, a9, a10, a11, a12, a13, a14, a15, a16⟩ := h
  have k : ∀ j, 0 < j → j ≠ 16 → up2 (up2 (lbI I M d 6) M 27 (I (M + 21) d)) M 28 (I M 2 + nI d) (M + j) = I (M + j) := fun j p q => (up2_row (by omega)).trans ((up2_row (by omega)).trans (lbI_o (by omega)))
  have f : ∀ j, j ≠ 27 → j ≠ 28 → up2 (up2 (lbI I M d 6) M 27 (I (M + 21) d)) M 28 (I M 2 + nI d) M j = I M j := fun j p q => (up2_k q).trans ((up2_k p).trans (congrFun (lbI_o (by omega)) j))
  refine ⟨a1, a2, (f 0 (by decide) (by decide)).trans a3, fun i hi => by rw [k 17 (by omega) (by omega)]; exact a4 i hi, fun i hi => by rw [k 2 (by omega) (by omega)]; exact a5 i hi, fun i hi => ?_, fun i hi => by rw [k 4 (by omega) (by omega)]; exact a7 i hi, fun i hi => by rw [k 5 (by omega) (by omega)]; exact a8 i hi, fun i hi => ?_, ?_, hs2, ?_, ht, (f 29 (by decide) (by decide)).trans a14, a15, a16.keep (f 11 (by decide) (by decide)) (fun j p1 p2 => k j (by omega) (by omega))⟩
  · rw [up2_row (show M + 16 ≠ M by omega), up2_row (show M + 16 ≠ M by omega)]
    exact (if_pos ⟨rfl, by omega⟩).trans (hn.1 i hi)
  · obtain ⟨b1, b2, b3, b4, b5⟩ := a9 i hi
    exact ⟨b1, b2, hs1 i hi, b4, b5⟩
  · exact (up2_k (by decide)).trans (up2_s.trans hn.2)
  · rw [up2_s, h2, nI_add]
def frm : Nat → Nat → List Nat
  | 0, _ => []
  | k + 1, c => c :: frm k (c + 1)
theorem frm_36 : frm 36 0 = List.range 36 := by decide
def LOW (M d : Nat) (I J : xI) : Prop := (∀ j, j < 6 * d → J (M + 20) j = I (M + 20) j) ∧ ∀ t, t < d → J (M + 21) t = I (M + 21) t ∧ J (M + 22) t = I (M + 22) t ∧ J (M + 23) t = I (M + 23) t
theorem LOW.rf {M d : Nat} {I : xI} : LOW M d I I := ⟨fun _ _ => rfl, fun _ _ => ⟨rfl, rfl, rfl⟩⟩
theorem LOW.tr {M d : Nat} {I J J' : xI} (h : LOW M d I J) (h' : LOW M d J J') : LOW M d I J' := ⟨fun j p => (h'.1 j p).trans (h.1 j p), fun t p => ⟨(h'.2 t p).1.trans (h.2 t p).1, (h'.2 t p).2.1.trans (h.2 t p).2.1, (h'.2 t p).2.2.trans (h.2 t p).2.2⟩⟩
theorem LOW.le {M d e : Nat} {I J : xI} (h : LOW M e I J) (hd : d ≤ e) : LOW M d I J := ⟨fun j p => h.1 j (by omega), fun t p => h.2 t (by omega)⟩

set_option maxHeartbeats 4000000 in
set_option maxRecDepth 100000 in
theorem lm_fw0 {T : xT} {n : Nat} {sh : Nat → Nat × Nat} {I : xI} {R : xR} {L : xL} {P : xPost} {M b nn d : Nat} (hM : xModel sh R M) {V : xV} {B : Nat} {o : Option xAR} (hv : VOK V B) (hB : B < 800000) (hb : b < V 8 0) (hn : nn ≤ 5) {s : xS} {ce : Nat → Nat} {ta te : Nat} (hj : MS sh R I M (V 8 0) (V 0) (V 1) ce (V 3) (V 4) ta te 0 o) (hnd : ND I M (V 8 0) d s) (hs : SOK V s) (hd : d = nn) (K1 : s.1 b = V 3 b → P (n, sh, 0, 0) I R L (some (.int 1))) (K2 : ¬ s.1 b = V 3 b → X T zX10_findWalk 6 0 0 P 11 [(0, .ref M), (1, .int (nI b)), (2, .int (nI nn)), (3, .int (nI d - 1))] [] (n, sh, 0, 0) I R L)  :  X T zX10_findWalk 6 0 0 P 11 [(0, .ref M), (1, .int (nI b)), (2, .int (nI nn)), (3, .int (nI d))] [] (n, sh, 0, 0) (I) R L := by
  obtain ⟨v6, v12, v10, vb, vf, vw, vm, vta, vte, vod, vrg, vdi⟩ := id hv
  refine x_iload_n (pc := 11) dX10_findWalk_11 rfl rfl ?_
  refine x_ifn_lt (pc := 12) (a := d) dX10_findWalk_12 ⟨139, by decide⟩ (by omega) ?_
  refine x_iload_n (pc := 15) dX10_findWalk_15 rfl rfl ?_
  refine x_iload_n (pc := 16) dX10_findWalk_16 rfl rfl ?_
  refine x_icmpn_ne_f (pc := 17) (tgt := 48) (a := d) (b := nn) dX10_findWalk_17 (by decide) (by omega) (by omega) (by omega) ?_
  refine x_aload_n (pc := 20) dX10_findWalk_20 rfl rfl ?_
  refine x_getr (pc := 21) dX10_findWalk_21 kf_RX10_132 hM.s rfl hM.f19 ?_
  refine x_bipush (pc := 24) (v := 6) dX10_findWalk_24 (by decide) ?_
  refine x_iload_n (pc := 26) dX10_findWalk_26 rfl rfl ?_
  refine x_imuln (pc := 27) (a := 6) (b := d) dX10_findWalk_27 ?_
  refine x_iload_n (pc := 28) dX10_findWalk_28 rfl rfl ?_
  refine x_iaddn (pc := 29) (a := (6 * d)) (b := b) dX10_findWalk_29 ?_
  refine x_ialdn (pc := 30) (a := ((6 * d) + b)) dX10_findWalk_30 hM.s19 (by omega) (by omega) ?_
  rw [hnd.1 b hb]
  have sb := hs.2 b hb
  refine x_aload_n (pc := 31) dX10_findWalk_31 rfl rfl ?_
  refine x_getr (pc := 32) dX10_findWalk_32 kf_RX10_32 hM.s rfl hM.f3 ?_
  refine x_iload_n (pc := 35) dX10_findWalk_35 rfl rfl ?_
  refine x_ialdn (pc := 36) (a := b) dX10_findWalk_36 hM.s3 (by omega) (by omega) ?_
  rw [hj.2.2.2.2.2.2.1 b hb]
  have tb := (vb b hb).2.2.2.1
  refine x_icmpn_ne (pc := 37) (tgt := 42) (a := (s.1 b)) (b := (V 3 b)) dX10_findWalk_37 (by decide) (by omega) (by omega) (fun c37 => ?_) (fun c37 => ?_)
  · skip
    obtain ⟨v42, ev42⟩ : ∃ y : Int32, y = (nI d) + (-1) := ⟨_, rfl⟩
    refine x_iinc (pc := 42) (v := v42) (lv' := [(0, .ref M), (1, .int (nI b)), (2, .int (nI nn)), (3, .int v42)]) dX10_findWalk_42 rfl (by rw [ev42]; rfl) (by decide) rfl ?_
    refine x_goto (pc := 45) (tgt := 11) dX10_findWalk_45 (by decide) ?_
    subst ev42
    rw [dec_eq]
    exact K2 (by first | exact c37 | exact fun z => c37 z)
  · skip
    refine x_iconst (pc := 40) (v := 1) dX10_findWalk_40 (by decide) ?_
    refine x_ireturn (pc := 41) dX10_findWalk_41 ⟨_, rfl, by decide⟩ ⟨Nat.le_refl _, Nat.le_refl _⟩ ?_
    exact K1 c37

set_option maxHeartbeats 4000000 in
set_option maxRecDepth 100000 in
theorem lm_fwE {T : xT} {n : Nat} {sh : Nat → Nat × Nat} {I : xI} {R : xR} {L : xL} {P : xPost} {M b nn d : Nat} (hM : xModel sh R M) (hn : nn ≤ 5) (hd : d < nn) (ht : I (M + 22) d = nI 36) (K : X T zX10_findWalk 6 0 0 P 11 [(0, .ref M), (1, .int (nI b)), (2, .int (nI nn)), (3, .int (nI d - 1))] [] (n, sh, 0, 0) I R L)  :  X T zX10_findWalk 6 0 0 P 11 [(0, .ref M), (1, .int (nI b)), (2, .int (nI nn)), (3, .int (nI d))] [] (n, sh, 0, 0) (I) R L := by
  refine x_iload_n (pc := 11) dX10_findWalk_11 rfl rfl ?_
  refine x_ifn_lt (pc := 12) (a := d) dX10_findWalk_12 ⟨139, by decide⟩ (by omega) ?_
  refine x_iload_n (pc := 15) dX10_findWalk_15 rfl rfl ?_
  refine x_iload_n (pc := 16) dX10_findWalk_16 rfl rfl ?_
  refine x_icmpn_ne_t (pc := 17) (tgt := 48) (a := d) (b := nn) dX10_findWalk_17 (by decide) (by omega) (by omega) (by omega) ?_
  refine x_aload_n (pc := 48) dX10_findWalk_48 rfl rfl ?_
  refine x_getr (pc := 49) dX10_findWalk_49 kf_RX10_138 hM.s rfl hM.f21 ?_
  refine x_iload_n (pc := 52) dX10_findWalk_52 rfl rfl ?_
  refine x_ialdn (pc := 53) (a := d) dX10_findWalk_53 hM.s21 (by omega) (by omega) ?_
  rw [ht]
  refine x_bipush (pc := 54) (v := 35) dX10_findWalk_54 (by decide) ?_
  refine x_icmpn_le_f (pc := 56) (tgt := 65) (a := 36) (b := 35) dX10_findWalk_56 (by decide) (by decide) (by decide) (by decide) ?_
  obtain ⟨v59, ev59⟩ : ∃ y : Int32, y = (nI d) + (-1) := ⟨_, rfl⟩
  refine x_iinc (pc := 59) (v := v59) (lv' := [(0, .ref M), (1, .int (nI b)), (2, .int (nI nn)), (3, .int v59)]) dX10_findWalk_59 rfl (by rw [ev59]; rfl) (by decide) rfl ?_
  refine x_goto (pc := 62) (tgt := 11) dX10_findWalk_62 (by decide) ?_
  subst ev59
  rw [dec_eq]
  exact K

set_option maxHeartbeats 4000000 in
set_option maxRecDepth 100000 in
theorem lm_fwC {T : xT} {n : Nat} {sh : Nat → Nat × Nat} {I : xI} {R : xR} {L : xL} {P : xPost} {M b nn d : Nat} (hM : xModel sh R M) {V : xV} {B : Nat} {o : Option xAR} (hv : VOK V B) (hB : B < 800000) (hb : b < V 8 0) (hn : nn ≤ 5) {s : xS} {ce : Nat → Nat} {ta te : Nat} (hj : MS sh R I M (V 8 0) (V 0) (V 1) ce (V 3) (V 4) ta te 0 o) (hnd : ND I M (V 8 0) d s) (hs : SOK V s) {c : Nat} (hd : d < nn) (hc : c < 36) (ht : I (M + 22) d = nI c) (h2 : I M 2 = nI (V 8 2)) (K0 : ∀ (J : xI) (ce : Nat → Nat) (ta te : Nat), sgo V o d s c = none → MS sh R J M (V 8 0) (V 0) (V 1) ce (V 3) (V 4) ta te 0 o → ND J M (V 8 0) d s → J (M + 22) d = nI (c + 1) → LOW M d I J → mdS M I J → X T zX10_findWalk 6 0 0 P 11 [(0, .ref M), (1, .int (nI b)), (2, .int (nI nn)), (3, .int (nI d))] [] (n, sh, 0, 0) J R L) (K1 : ∀ (J : xI) (s' : xS) (ce : Nat → Nat) (ta te : Nat), sgo V o d s c = some s' → MS sh R J M (V 8 0) (V 0) (V 1) ce (V 3) (V 4) ta te 0 o → ND J M (V 8 0) d s → J (M + 22) d = nI (c + 1) → J (M + 23) d = nI c → ND J M (V 8 0) (d + 1) s' → J (M + 22) (d + 1) = 0 → LOW M d I J → mdS M I J → X T zX10_findWalk 6 0 0 P 11 [(0, .ref M), (1, .int (nI b)), (2, .int (nI nn)), (3, .int (nI (d + 1)))] [] (n, sh, 0, 0) J R L)  :  X T zX10_findWalk 6 0 0 P 11 [(0, .ref M), (1, .int (nI b)), (2, .int (nI nn)), (3, .int (nI d))] [] (n, sh, 0, 0) (I) R L := by
  obtain ⟨v6, v12, v10, vb, vf, vw, vm, vta, vte, vod, vrg, vdi⟩ := id hv
  refine x_iload_n (pc := 11) dX10_findWalk_11 rfl rfl ?_
  refine x_ifn_lt (pc := 12) (a := d) dX10_findWalk_12 ⟨139, by decide⟩ (by omega) ?_
  refine x_iload_n (pc := 15) dX10_findWalk_15 rfl rfl ?_
  refine x_iload_n (pc := 16) dX10_findWalk_16 rfl rfl ?_
  refine x_icmpn_ne_t (pc := 17) (tgt := 48) (a := d) (b := nn) dX10_findWalk_17 (by decide) (by omega) (by omega) (by omega) ?_
  refine x_aload_n (pc := 48) dX10_findWalk_48 rfl rfl ?_
  refine x_getr (pc := 49) dX10_findWalk_49 kf_RX10_138 hM.s rfl hM.f21 ?_
  refine x_iload_n (pc := 52) dX10_findWalk_52 rfl rfl ?_
  refine x_ialdn (pc := 53) (a := d) dX10_findWalk_53 hM.s21 (by omega) (by omega) ?_
  rw [ht]
  refine x_bipush (pc := 54) (v := 35) dX10_findWalk_54 (by decide) ?_
  refine x_icmpn_le_t (pc := 56) (tgt := 65) (a := c) (b := 35) dX10_findWalk_56 (by decide) (by omega) (by decide) (by omega) ?_
  refine x_aload_n (pc := 65) dX10_findWalk_65 rfl rfl ?_
  refine x_getr (pc := 66) dX10_findWalk_66 kf_RX10_138 hM.s rfl hM.f21 ?_
  refine x_iload_n (pc := 69) dX10_findWalk_69 rfl rfl ?_
  refine x_ialdn (pc := 70) (a := d) dX10_findWalk_70 hM.s21 (by omega) (by omega) ?_
  rw [ht]
  refine x_istore (pc := 71) (lv' := [(0, .ref M), (1, .int (nI b)), (2, .int (nI nn)), (3, .int (nI d)), (4, .int (nI c))]) dX10_findWalk_71 (by decide) rfl ?_
  refine x_aload_n (pc := 73) dX10_findWalk_73 rfl rfl ?_
  refine x_getr (pc := 74) dX10_findWalk_74 kf_RX10_138 hM.s rfl hM.f21 ?_
  refine x_iload_n (pc := 77) dX10_findWalk_77 rfl rfl ?_
  refine x_dup2 (pc := 78) dX10_findWalk_78 rfl rfl ?_
  refine x_ialdn (pc := 79) (a := d) dX10_findWalk_79 hM.s21 (by omega) (by omega) ?_
  rw [ht]
  refine x_iconst (pc := 80) (v := 1) dX10_findWalk_80 (by decide) ?_
  refine x_iaddn (pc := 81) (a := c) (b := 1) dX10_findWalk_81 ?_
  refine x_iastn (pc := 82) (a := d) dX10_findWalk_82 hM.s21 (by omega) (by omega) ?_
  refine x_aload_n (pc := 83) dX10_findWalk_83 rfl rfl ?_
  refine x_iload_n (pc := 84) dX10_findWalk_84 rfl rfl ?_
  refine x_callV (pc := 85) (As := [.int _]) dX10_findWalk_85 km_X10_layBack kv_X10_layBack kl_RX10_356 hM.s rfl rfl (by decide) ⟨Nat.le_refl _, Nat.le_refl _⟩ rfl (Nat.le_of_ble_eq_true rfl) (Nat.le_of_ble_eq_true rfl) (m_layBack hM (by omega) (⟨rfl, rfl, ?_⟩))
  have hnd1 : ND (up2 I (M + 22) d (nI (c + 1))) M (V 8 0) d s := ⟨fun i hi => (congrFun (up2_row (by omega)) _).trans (hnd.1 i hi), (congrFun (up2_row (by omega)) d).trans hnd.2⟩
  have hj1 := (hj.keepH (I' := (up2 I (M + 22) d (nI (c + 1)))) (fun a p => up2_row (by omega))).lay hnd1 hs.1 hs.2 ((congrFun (up2_row (by omega)) 2).trans h2) (by omega)
  have f1 : mdS M I (up2 I (M + 22) d (nI (c + 1))) := mdS.arr (by omega)
  have f2 : mdS M (up2 I (M + 22) d (nI (c + 1))) (up2 (up2 (lbI (up2 I (M + 22) d (nI (c + 1))) M d 6) M 27 ((up2 I (M + 22) d (nI (c + 1))) (M + 21) d)) M 28 ((up2 I (M + 22) d (nI (c + 1))) M 2 + nI d)) := mdS.lb.tr (mdS.of ((mdT.fld (by decide)).tr (mdT.fld (by decide))))
  have g2 : ∀ a, a ≠ M → a ≠ M + 16 → (up2 (up2 (lbI (up2 I (M + 22) d (nI (c + 1))) M d 6) M 27 ((up2 I (M + 22) d (nI (c + 1))) (M + 21) d)) M 28 ((up2 I (M + 22) d (nI (c + 1))) M 2 + nI d)) a = (up2 I (M + 22) d (nI (c + 1))) a := fun a p q => (up2_row p).trans ((up2_row p).trans (lbI_o q))
  refine x_aload_n (pc := 88) dX10_findWalk_88 rfl rfl ?_
  refine x_iload (pc := 89) dX10_findWalk_89 rfl ?_
  refine x_callV (pc := 91) (As := [.int _]) dX10_findWalk_91 km_X10_mayGo kv_X10_mayGo kl_RX10_350 hM.s rfl rfl (by decide) ⟨Nat.le_refl _, Nat.le_refl _⟩ rfl (Nat.le_of_ble_eq_true rfl) (Nat.le_of_ble_eq_true rfl) (m_mayGo hj1 hc (fun mg => ⟨rfl, rfl, ?_⟩) (fun mg => ⟨rfl, rfl, ?_⟩))
  · skip
    have hj2 := hj1.setTamer (t := c) hc
    refine x_if_ne_t (pc := 94) (tgt := 100) dX10_findWalk_94 (by decide) (by decide) ?_
    refine x_aload_n (pc := 100) dX10_findWalk_100 rfl rfl ?_
    refine x_iload (pc := 101) dX10_findWalk_101 rfl ?_
    refine x_put (pc := 103) dX10_findWalk_103 kf_RX10_92 hM.s rfl (Or.inl kb_10_27) ?_
    refine x_aload_n (pc := 106) dX10_findWalk_106 rfl rfl ?_
    refine x_callV (pc := 107) (As := []) dX10_findWalk_107 km_X10_goTenth kv_X10_goTenth kl_RX10_344 hM.s rfl rfl (by decide) ⟨Nat.le_refl _, Nat.le_refl _⟩ rfl (Nat.le_of_ble_eq_true rfl) (Nat.le_of_ble_eq_true rfl) (m_goTenth hj2 (by omega) (fun J4 j4 g4 => ⟨rfl, rfl, ?_⟩))
    have j4 : MS sh R J4 M (V 8 0) (V 0) (V 1) (sTen V o d s c) (V 3) (V 4) c (V 8 2 + d + 1) 0 o := j4
    have f4 : mdS M I J4 := (f1.tr f2).tr (mdS.of ((mdT.fld (k := 27) (by decide)).tr (mdT.of2 g4)))
    have g5 : ∀ a, a ≠ M → a ≠ M + 16 → a ≠ M + 18 → J4 a = (up2 I (M + 22) d (nI (c + 1))) a := fun a p q u => (g4.1 a p u q).trans ((up2_row p).trans (g2 a p q))
    refine x_aload_n (pc := 110) dX10_findWalk_110 rfl rfl ?_
    refine x_callV (pc := 111) (As := []) dX10_findWalk_111 km_X10_caught kv_X10_caught kl_RX10_347 hM.s rfl rfl (by decide) ⟨Nat.le_refl _, Nat.le_refl _⟩ rfl (Nat.le_of_ble_eq_true rfl) (Nat.le_of_ble_eq_true rfl) (m_caught hM j4.2.2.1 v6 j4.2.2.2.2.2.1 (fun a ha => (j4.2.2.2.2.2.2.2.2.1 a ha).2.2.1) j4.2.2.2.2.2.2.2.2.2.1 hc (fun k hk hkx hkm => ⟨rfl, rfl, ?_⟩) (fun hno => ⟨rfl, rfl, ?_⟩))
    · skip
      refine x_ifn_lt (pc := 114) (a := k) dX10_findWalk_114 ⟨120, by decide⟩ (by omega) ?_
      refine x_goto (pc := 117) (tgt := 11) dX10_findWalk_117 (by decide) ?_
      first
      | (have sg : sgo V o d s c = none := sgo_n mg
         exact X.keep [0, 1, 2, 3] rfl (K0 _ _ _ _ sg hj1 ⟨fun i hi => (congrFun (g2 (M + 20) (by omega) (by omega)) _).trans (hnd1.1 i hi), (congrFun (g2 (M + 21) (by omega) (by omega)) d).trans hnd1.2⟩ ((congrFun (g2 (M + 22) (by omega) (by omega)) d).trans up2_s) ⟨fun j p => congrFun ((g2 (M + 20) (by omega) (by omega)).trans (up2_row (by omega))) j, fun t p => ⟨congrFun ((g2 (M + 21) (by omega) (by omega)).trans (up2_row (by omega))) t, (congrFun (g2 (M + 22) (by omega) (by omega)) t).trans (up2_k (by omega)), congrFun ((g2 (M + 23) (by omega) (by omega)).trans (up2_row (by omega))) t⟩⟩ (f1.tr f2)))
      | (have sg : sgo V o d s c = none := sgo_c (held_t.mpr ⟨k, hk, hkx⟩)
         exact X.keep [0, 1, 2, 3] rfl (K0 _ _ _ _ sg j4 ⟨fun i hi => (congrFun (g5 (M + 20) (by omega) (by omega) (by omega)) _).trans (hnd1.1 i hi), (congrFun (g5 (M + 21) (by omega) (by omega) (by omega)) d).trans hnd1.2⟩ ((congrFun (g5 (M + 22) (by omega) (by omega) (by omega)) d).trans up2_s) ⟨fun j p => congrFun ((g5 (M + 20) (by omega) (by omega) (by omega)).trans (up2_row (by omega))) j, fun t p => ⟨congrFun ((g5 (M + 21) (by omega) (by omega) (by omega)).trans (up2_row (by omega))) t, (congrFun (g5 (M + 22) (by omega) (by omega) (by omega)) t).trans (up2_k (by omega)), congrFun ((g5 (M + 23) (by omega) (by omega) (by omega)).trans (up2_row (by omega))) t⟩⟩ f4))
    · skip
      refine x_if_lt_t (pc := 114) (tgt := 120) dX10_findWalk_114 (by decide) (by decide) ?_
      refine x_aload_n (pc := 120) dX10_findWalk_120 rfl rfl ?_
      refine x_getr (pc := 121) dX10_findWalk_121 kf_RX10_141 hM.s rfl hM.f22 ?_
      refine x_iload_n (pc := 124) dX10_findWalk_124 rfl rfl ?_
      refine x_iload (pc := 125) dX10_findWalk_125 rfl ?_
      refine x_iastn (pc := 127) (a := d) dX10_findWalk_127 hM.s22 (by omega) (by omega) ?_
      refine x_iinc (pc := 128) (v := nI (d + 1)) (lv' := [(0, .ref M), (1, .int (nI b)), (2, .int (nI nn)), (3, .int (nI (d + 1))), (4, .int (nI c))]) dX10_findWalk_128 rfl (nI_1 _) (by decide) rfl ?_
      refine x_aload_n (pc := 131) dX10_findWalk_131 rfl rfl ?_
      refine x_iload_n (pc := 132) dX10_findWalk_132 rfl rfl ?_
      refine x_callV (pc := 133) (As := [.int _]) dX10_findWalk_133 km_X10_keep kv_X10_keep kl_RX10_353 hM.s rfl rfl (by decide) ⟨Nat.le_refl _, Nat.le_refl _⟩ rfl (Nat.le_of_ble_eq_true rfl) (Nat.le_of_ble_eq_true rfl) (m_keep (d := d + 1) hM (by omega) (⟨rfl, rfl, ?_⟩))
      refine x_goto (pc := 136) (tgt := 11) dX10_findWalk_136 (by decide) ?_
      have sg := sgo_s (o := o) (d := d) mg (held_f hno)
      have e20 : ∀ j, j < 6 * (d + 1) → (up2 (up2 (kpI (up2 J4 (M + 23) d (nI c)) M (d + 1) 6) (M + 21) (d + 1) ((up2 J4 (M + 23) d (nI c)) M 27)) (M + 22) (d + 1) 0) (M + 20) j = I (M + 20) j := fun j p => by rw [up2_row (show M + 20 ≠ M + 22 by omega), up2_row (show M + 20 ≠ M + 21 by omega)]; exact (if_neg (by omega)).trans ((congrFun ((up2_row (by omega)).trans ((g5 (M + 20) (by omega) (by omega) (by omega)).trans (up2_row (by omega)))) j))
      have e21 : ∀ t, t ≠ d + 1 → (up2 (up2 (kpI (up2 J4 (M + 23) d (nI c)) M (d + 1) 6) (M + 21) (d + 1) ((up2 J4 (M + 23) d (nI c)) M 27)) (M + 22) (d + 1) 0) (M + 21) t = I (M + 21) t := fun t p => by rw [up2_row (show M + 21 ≠ M + 22 by omega), up2_k p, kpI_o (show M + 21 ≠ M + 20 by omega)]; exact congrFun ((up2_row (by omega)).trans ((g5 (M + 21) (by omega) (by omega) (by omega)).trans (up2_row (by omega)))) t
      have e22 : ∀ t, t ≠ d + 1 → (up2 (up2 (kpI (up2 J4 (M + 23) d (nI c)) M (d + 1) 6) (M + 21) (d + 1) ((up2 J4 (M + 23) d (nI c)) M 27)) (M + 22) (d + 1) 0) (M + 22) t = (up2 I (M + 22) d (nI (c + 1))) (M + 22) t := fun t p => by rw [up2_k p, up2_row (show M + 22 ≠ M + 21 by omega), kpI_o (show M + 22 ≠ M + 20 by omega)]; exact congrFun ((up2_row (by omega)).trans (g5 (M + 22) (by omega) (by omega) (by omega))) t
      have e23 : (up2 (up2 (kpI (up2 J4 (M + 23) d (nI c)) M (d + 1) 6) (M + 21) (d + 1) ((up2 J4 (M + 23) d (nI c)) M 27)) (M + 22) (d + 1) 0) (M + 23) = (up2 J4 (M + 23) d (nI c)) (M + 23) := (up2_row (by omega)).trans ((up2_row (by omega)).trans (kpI_o (by omega)))
      have e23b : J4 (M + 23) = I (M + 23) := (g5 (M + 23) (by omega) (by omega) (by omega)).trans (up2_row (by omega))
      refine X.keep [0, 1, 2, 3] rfl ?_
      refine K1 _ (sTen V o d s c, c) _ _ _ sg (j4.keepH (fun a p => (up2_row (by omega)).trans ((up2_row (by omega)).trans ((kpI_o (by omega)).trans (up2_row (by omega)))))) ⟨fun i hi => (e20 _ (by omega)).trans (hnd.1 i hi), (e21 d (by omega)).trans hnd.2⟩ ((e22 d (by omega)).trans up2_s) ((congrFun e23 d).trans up2_s) ⟨fun i hi => ?_, ?_⟩ up2_s ⟨fun j p => e20 j (by omega), fun t p => ⟨e21 t (by omega), (e22 t (by omega)).trans (up2_k (by omega)), (congrFun e23 t).trans ((up2_k (by omega)).trans (congrFun e23b t))⟩⟩ (((f4.tr (mdS.arr (by omega))).tr mdS.kp).tr ((mdS.arr (by omega)).tr (mdS.arr (by omega))))
      · rw [up2_row (show M + 20 ≠ M + 22 by omega), up2_row (show M + 20 ≠ M + 21 by omega)]
        refine (if_pos ⟨rfl, by omega, by omega⟩).trans ?_
        rw [show 6 * (d + 1) + i - 6 * (d + 1) = i by omega, up2_row (show M + 16 ≠ M + 23 by omega)]
        exact j4.2.2.2.2.2.1 i hi
      · rw [up2_row (show M + 21 ≠ M + 22 by omega), up2_s, up2_row (show M ≠ M + 23 by omega)]
        exact j4.2.2.2.2.2.2.2.2.2.1
  · skip
    refine x_if_ne_f (pc := 94) (tgt := 100) dX10_findWalk_94 (by decide) (by decide) ?_
    refine x_goto (pc := 97) (tgt := 11) dX10_findWalk_97 (by decide) ?_
    first
    | (have sg : sgo V o d s c = none := sgo_n mg
       exact X.keep [0, 1, 2, 3] rfl (K0 _ _ _ _ sg hj1 ⟨fun i hi => (congrFun (g2 (M + 20) (by omega) (by omega)) _).trans (hnd1.1 i hi), (congrFun (g2 (M + 21) (by omega) (by omega)) d).trans hnd1.2⟩ ((congrFun (g2 (M + 22) (by omega) (by omega)) d).trans up2_s) ⟨fun j p => congrFun ((g2 (M + 20) (by omega) (by omega)).trans (up2_row (by omega))) j, fun t p => ⟨congrFun ((g2 (M + 21) (by omega) (by omega)).trans (up2_row (by omega))) t, (congrFun (g2 (M + 22) (by omega) (by omega)) t).trans (up2_k (by omega)), congrFun ((g2 (M + 23) (by omega) (by omega)).trans (up2_row (by omega))) t⟩⟩ (f1.tr f2)))
    | (have sg : sgo V o d s c = none := sgo_c (held_t.mpr ⟨k, hk, hkx⟩)
       exact X.keep [0, 1, 2, 3] rfl (K0 _ _ _ _ sg j4 ⟨fun i hi => (congrFun (g5 (M + 20) (by omega) (by omega) (by omega)) _).trans (hnd1.1 i hi), (congrFun (g5 (M + 21) (by omega) (by omega) (by omega)) d).trans hnd1.2⟩ ((congrFun (g5 (M + 22) (by omega) (by omega) (by omega)) d).trans up2_s) ⟨fun j p => congrFun ((g5 (M + 20) (by omega) (by omega) (by omega)).trans (up2_row (by omega))) j, fun t p => ⟨congrFun ((g5 (M + 21) (by omega) (by omega) (by omega)).trans (up2_row (by omega))) t, (congrFun (g5 (M + 22) (by omega) (by omega) (by omega)) t).trans (up2_k (by omega)), congrFun ((g5 (M + 23) (by omega) (by omega) (by omega)).trans (up2_row (by omega))) t⟩⟩ f4))

set_option maxHeartbeats 4000000 in
theorem lm_try {T : xT} {n : Nat} {sh : Nat → Nat × Nat} {R : xR} {L : xL} {P : xPost} {M b nn : Nat} (hM : xModel sh R M) {V : xV} {B : Nat} {o : Option xAR} (hv : VOK V B) (hB : B < 800000) (hb : b < V 8 0) (hn : nn ≤ 5) {r d : Nat} {s : xS} (hd : d < nn) (hs : SOK V s)
    (IH : ∀ (s' : xS) (I : xI) (ce : Nat → Nat) (ta te : Nat), SOK V s' → MS sh R I M (V 8 0) (V 0) (V 1) ce (V 3) (V 4) ta te 0 o → ND I M (V 8 0) (d + 1) s' → I (M + 22) (d + 1) = 0 → I M 2 = nI (V 8 2) → (∀ (J : xI) (w : List Nat), dfs V o b r (d + 1) s' = some w → (∀ j, j < w.length → J (M + 23) (d + 1 + j) = nI (w.getD j 0)) → (∀ t, t < d + 1 → J (M + 23) t = I (M + 23) t) → mdS M I J → P (n, sh, 0, 0) J R L (some (.int 1))) → (∀ (J : xI) (ce : Nat → Nat) (ta te : Nat), dfs V o b r (d + 1) s' = none → MS sh R J M (V 8 0) (V 0) (V 1) ce (V 3) (V 4) ta te 0 o → LOW M (d + 1) I J → mdS M I J → X T zX10_findWalk 6 0 0 P 11 [(0, .ref M), (1, .int (nI b)), (2, .int (nI nn)), (3, .int (nI (d + 1) - 1))] [] (n, sh, 0, 0) J R L) → X T zX10_findWalk 6 0 0 P 11 [(0, .ref M), (1, .int (nI b)), (2, .int (nI nn)), (3, .int (nI (d + 1)))] [] (n, sh, 0, 0) I R L) :
    ∀ (k c : Nat), c + k = 36 → ∀ (I : xI) (ce : Nat → Nat) (ta te : Nat), MS sh R I M (V 8 0) (V 0) (V 1) ce (V 3) (V 4) ta te 0 o → ND I M (V 8 0) d s → I (M + 22) d = nI c → I M 2 = nI (V 8 2) →
      (∀ (J : xI) (w : List Nat), fS (fun c => ob (sgo V o d s c) (fun s' => ob (dfs V o b r (d + 1) s') (fun w => some (c :: w)))) (frm k c) = some w → (∀ j, j < w.length → J (M + 23) (d + j) = nI (w.getD j 0)) → (∀ t, t < d → J (M + 23) t = I (M + 23) t) → mdS M I J → P (n, sh, 0, 0) J R L (some (.int 1))) →
      (∀ (J : xI) (ce : Nat → Nat) (ta te : Nat), fS (fun c => ob (sgo V o d s c) (fun s' => ob (dfs V o b r (d + 1) s') (fun w => some (c :: w)))) (frm k c) = none → MS sh R J M (V 8 0) (V 0) (V 1) ce (V 3) (V 4) ta te 0 o → LOW M d I J → mdS M I J → X T zX10_findWalk 6 0 0 P 11 [(0, .ref M), (1, .int (nI b)), (2, .int (nI nn)), (3, .int (nI d - 1))] [] (n, sh, 0, 0) J R L) → X T zX10_findWalk 6 0 0 P 11 [(0, .ref M), (1, .int (nI b)), (2, .int (nI nn)), (3, .int (nI d))] [] (n, sh, 0, 0) I R L := by
  intro k
  induction k with
  | zero =>
    intro c hc I ce ta te hj hnd ht h2 K1 K2
    have e : c = 36 := by omega
    subst e
    exact lm_fwE hM hn hd ht (K2 I ce ta te rfl hj LOW.rf mdS.rf)
  | succ k ih =>
    intro c hc I ce ta te hj hnd ht h2 K1 K2
    refine lm_fwC hM hv hB hb hn hj hnd hs hd (show c < 36 by omega) ht h2 (fun J ce2 ta2 te2 sg j2 n2 t2 lo2 m2 => ?_) (fun J s' ce2 ta2 te2 sg j2 n2 t2 p2 n3 t3 lo2 m2 => ?_)
    · have e : fS (fun c => ob (sgo V o d s c) (fun s' => ob (dfs V o b r (d + 1) s') (fun w => some (c :: w)))) (frm (k + 1) c) = fS (fun c => ob (sgo V o d s c) (fun s' => ob (dfs V o b r (d + 1) s') (fun w => some (c :: w)))) (frm k (c + 1)) := fS_n (f := (fun c => ob (sgo V o d s c) (fun s' => ob (dfs V o b r (d + 1) s') (fun w => some (c :: w))))) (ob_n sg)
      rw [e] at K1 K2
      exact ih (c + 1) (by omega) J ce2 ta2 te2 j2 n2 t2 ((m2.2 2 (by omega)).trans h2) (fun J3 w h1 h3 h4 m3 => K1 J3 w h1 h3 (fun t p => (h4 t p).trans (lo2.2 t p).2.2) (m2.tr m3)) (fun J3 ce3 ta3 te3 h1 h3 h4 m3 => K2 J3 ce3 ta3 te3 h1 h3 (lo2.tr h4) (m2.tr m3))
    · have hs' : SOK V s' := by
        have e3 := sgo_is sg
        subst e3
        exact ⟨show c < 36 by omega, fun i hi => tenthF_lt hs.2 _ (Nat.le_refl _) i hi⟩
      refine IH s' J ce2 ta2 te2 hs' j2 n3 t3 ((m2.2 2 (by omega)).trans h2) (fun J3 w h1 h3 h4 m3 => ?_) (fun J3 ce3 ta3 te3 h1 h3 h4 m3 => ?_)
      · have e : fS (fun c => ob (sgo V o d s c) (fun s' => ob (dfs V o b r (d + 1) s') (fun w => some (c :: w)))) (frm (k + 1) c) = some (c :: w) := fS_s (f := (fun c => ob (sgo V o d s c) (fun s' => ob (dfs V o b r (d + 1) s') (fun w => some (c :: w))))) ((ob_s sg).trans (ob_s h1))
        refine K1 J3 (c :: w) e (fun j hjl => ?_) (fun t p => (h4 t (by omega)).trans (lo2.2 t p).2.2) (m2.tr m3)
        rcases j with _|j
        · exact (h4 d (by omega)).trans p2
        · have := h3 j (by simpa using hjl)
          rw [show d + 1 + j = d + (j + 1) by omega] at this
          exact this
      · have e : fS (fun c => ob (sgo V o d s c) (fun s' => ob (dfs V o b r (d + 1) s') (fun w => some (c :: w)))) (frm (k + 1) c) = fS (fun c => ob (sgo V o d s c) (fun s' => ob (dfs V o b r (d + 1) s') (fun w => some (c :: w)))) (frm k (c + 1)) := fS_n (f := (fun c => ob (sgo V o d s c) (fun s' => ob (dfs V o b r (d + 1) s') (fun w => some (c :: w))))) ((ob_s sg).trans (ob_n h1))
        rw [e] at K1 K2
        have q1 := h4.2 d (by omega)
        have e1 : nI (d + 1) - 1 = nI d := pk_sub (b := 1) (by omega)
        rw [e1]
        exact ih (c + 1) (by omega) J3 ce3 ta3 te3 h3 ⟨fun i hi => (h4.1 _ (by have := hv.1; omega)).trans (n2.1 i hi), q1.1.trans n2.2⟩ (q1.2.1.trans t2) (((m2.tr m3).2 2 (by omega)).trans h2) (fun J4 w h1 h5 h6 m4 => K1 J4 w h1 h5 (fun t p => (h6 t p).trans ((h4.2 t (by omega)).2.2.trans (lo2.2 t p).2.2)) ((m2.tr m3).tr m4)) (fun J4 ce4 ta4 te4 h1 h5 h6 m4 => K2 J4 ce4 ta4 te4 h1 h5 ((lo2.tr (h4.le (by omega))).tr h6) ((m2.tr m3).tr m4))
set_option maxHeartbeats 4000000 in
theorem lm_dfs {T : xT} {n : Nat} {sh : Nat → Nat × Nat} {R : xR} {L : xL} {P : xPost} {M b nn : Nat} (hM : xModel sh R M) {V : xV} {B : Nat} {o : Option xAR} (hv : VOK V B) (hB : B < 800000) (hb : b < V 8 0) (hn : nn ≤ 5) :
    ∀ (r d : Nat) (s : xS) (I : xI) (ce : Nat → Nat) (ta te : Nat), d + r = nn → SOK V s → MS sh R I M (V 8 0) (V 0) (V 1) ce (V 3) (V 4) ta te 0 o → ND I M (V 8 0) d s → I (M + 22) d = 0 → I M 2 = nI (V 8 2) → (∀ (J : xI) (w : List Nat), dfs V o b r d s = some w → (∀ j, j < w.length → J (M + 23) (d + j) = nI (w.getD j 0)) → (∀ t, t < d → J (M + 23) t = I (M + 23) t) → mdS M I J → P (n, sh, 0, 0) J R L (some (.int 1))) → (∀ (J : xI) (ce : Nat → Nat) (ta te : Nat), dfs V o b r d s = none → MS sh R J M (V 8 0) (V 0) (V 1) ce (V 3) (V 4) ta te 0 o → LOW M d I J → mdS M I J → X T zX10_findWalk 6 0 0 P 11 [(0, .ref M), (1, .int (nI b)), (2, .int (nI nn)), (3, .int (nI d - 1))] [] (n, sh, 0, 0) J R L) → X T zX10_findWalk 6 0 0 P 11 [(0, .ref M), (1, .int (nI b)), (2, .int (nI nn)), (3, .int (nI d))] [] (n, sh, 0, 0) I R L := by
  intro r
  induction r with
  | zero =>
    intro d s I ce ta te hd hs hj hnd ht h2 K1 K2
    exact lm_fw0 hM hv hB hb hn hj hnd hs (by omega) (fun q => K1 I [] (if_pos q) (fun j hjl => absurd hjl (by simp)) (fun _ _ => rfl) mdS.rf) (fun q => K2 I ce ta te (if_neg q) hj LOW.rf mdS.rf)
  | succ r ih =>
    intro d s I ce ta te hd hs hj hnd ht h2 K1 K2
    have e : dfs V o b (r + 1) d s = fS (fun c => ob (sgo V o d s c) (fun s' => ob (dfs V o b r (d + 1) s') (fun w => some (c :: w)))) (frm 36 0) := by rw [frm_36]; rfl
    rw [e] at K1 K2
    exact lm_try hM hv hB hb hn (by omega) hs (fun s' I ce ta te a1 a2 a3 a4 a5 K1 K2 => ih (d + 1) s' I ce ta te (by omega) a1 a2 a3 a4 a5 K1 K2) 36 0 rfl I ce ta te hj hnd ht h2 K1 K2

set_option maxHeartbeats 4000000 in
set_option maxRecDepth 100000 in
theorem lm_fwX {T : xT} {n : Nat} {sh : Nat → Nat × Nat} {I : xI} {R : xR} {L : xL} {P : xPost} {M b nn : Nat} (hM : xModel sh R M) (K : P (n, sh, 0, 0) I R L (some (.int 0)))  :  X T zX10_findWalk 6 0 0 P 11 [(0, .ref M), (1, .int (nI b)), (2, .int (nI nn)), (3, .int (nI 0 - 1))] [] (n, sh, 0, 0) (I) R L := by
  refine x_iload_n (pc := 11) dX10_findWalk_11 rfl rfl ?_
  refine x_if_lt_t (pc := 12) (tgt := 139) dX10_findWalk_12 (by decide) (by decide) ?_
  refine x_iconst (pc := 139) (v := 0) dX10_findWalk_139 (by decide) ?_
  refine x_ireturn (pc := 140) dX10_findWalk_140 ⟨_, rfl, by decide⟩ ⟨Nat.le_refl _, Nat.le_refl _⟩ ?_
  exact K

set_option maxHeartbeats 4000000 in
set_option maxRecDepth 100000 in
theorem m_findWalk {T : xT} {n : Nat} {sh : Nat → Nat × Nat} {I : xI} {R : xR} {L : xL} {P : xPost} {M b nn : Nat} (hM : xModel sh R M) {V : xV} {B rc : Nat} {ars : Nat → xAR} (h : MDV I M V) (hv : VOK V B) (hB : B < 800000) (hr : mRings I M rc ars) (hV6 : V 8 6 ≤ rc) (hb : b < V 8 0) (hn : nn ≤ 5) (K1 : ∀ (J : xI) (w : List Nat), dfs V (rgVal ars V) b nn 0 (V 2, V 8 1) = some w → (∀ j, j < w.length → J (M + 23) j = nI (w.getD j 0)) → mdS M I J → P (n, sh, 0, 0) J R L (some (.int 1))) (K2 : ∀ J : xI, dfs V (rgVal ars V) b nn 0 (V 2, V 8 1) = none → mdS M I J → P (n, sh, 0, 0) J R L (some (.int 0)))  : XM T zX10_findWalk 6 [.ref M, .int (nI b), .int (nI nn)] n sh I R L P := by
  obtain ⟨v6, v12, v10, vb, vf, vw, vm, vta, vte, vod, vrg, vdi⟩ := id hv
  refine x_aload_n (pc := 0) dX10_findWalk_0 rfl rfl ?_
  refine x_callV (pc := 1) (As := []) dX10_findWalk_1 km_X10_asIs kv_X10_asIs kl_RX10_338 hM.s rfl rfl (by decide) ⟨Nat.le_refl _, Nat.le_refl _⟩ rfl (Nat.le_of_ble_eq_true rfl) (Nat.le_of_ble_eq_true rfl) (m_asIs hM (fun I2 k1 k2 k3 k4 k5 k6 k7 => ⟨rfl, rfl, ?_⟩))
  have hms := h.toMS hM hv hB hr hV6 k1 k2 k3 k4 k5 k6 k7
  have fa := mdS.of (mdT.asIs k1 k2)
  refine x_aload_n (pc := 4) dX10_findWalk_4 rfl rfl ?_
  refine x_iconst (pc := 5) (v := 0) dX10_findWalk_5 (by decide) ?_
  refine x_callV (pc := 6) (As := [.int _]) dX10_findWalk_6 km_X10_keep kv_X10_keep kl_RX10_353 hM.s rfl rfl (by decide) ⟨Nat.le_refl _, Nat.le_refl _⟩ rfl (Nat.le_of_ble_eq_true rfl) (Nat.le_of_ble_eq_true rfl) (m_keep (d := 0) hM (by decide) (⟨rfl, rfl, ?_⟩))
  refine x_iconst (pc := 9) (v := 0) dX10_findWalk_9 (by decide) ?_
  refine x_istore_n (pc := 10) (lv' := [(0, .ref M), (1, .int (nI b)), (2, .int (nI nn)), (3, .int 0)]) dX10_findWalk_10 rfl (by decide) rfl ?_
  have fk : mdS M I2 (up2 (up2 (kpI I2 M 0 6) (M + 21) 0 (I2 M 27)) (M + 22) 0 0) := mdS.kp.tr ((mdS.arr (by omega)).tr (mdS.arr (by omega)))
  have hj : MS sh R (up2 (up2 (kpI I2 M 0 6) (M + 21) 0 (I2 M 27)) (M + 22) 0 0) M (V 8 0) (V 0) (V 1) (V 2) (V 3) (V 4) (V 8 1) (V 8 2) 0 (rgVal ars V) := hms.keepH (fun a p => (up2_row (by omega)).trans ((up2_row (by omega)).trans (kpI_o (by omega))))
  have hnd : ND (up2 (up2 (kpI I2 M 0 6) (M + 21) 0 (I2 M 27)) (M + 22) 0 0) M (V 8 0) 0 (V 2, V 8 1) := ⟨fun i hi => by rw [up2_row (show M + 20 ≠ M + 22 by omega), up2_row (show M + 20 ≠ M + 21 by omega)]; exact (if_pos ⟨rfl, by omega, by omega⟩).trans ((congrArg (I2 (M + 16)) (show 6 * 0 + i - 6 * 0 = i by omega)).trans (hms.2.2.2.2.2.1 i hi)), by rw [up2_row (show M + 21 ≠ M + 22 by omega), up2_s]; exact hms.2.2.2.2.2.2.2.2.2.1⟩
  refine lm_dfs (o := (rgVal ars V)) hM hv hB hb hn nn 0 (V 2, V 8 1) _ _ _ _ (by omega) ⟨vta, fun i hi => (vb i hi).2.2.1⟩ hj hnd up2_s (((fa.tr fk).2 2 (by omega)).trans h.2.2.1) (fun J w h1 h3 h4 m3 => K1 J w h1 (fun j hjl => by have := h3 j hjl; rw [Nat.zero_add] at this; exact this) ((fa.tr fk).tr m3)) (fun J ce ta te h1 h3 h4 m3 => ?_)
  refine lm_fwX hM (K2 J h1 ((fa.tr fk).tr m3))

set_option maxHeartbeats 4000000 in
set_option maxRecDepth 100000 in
theorem lm_sh1 {T : xT} {n : Nat} {sh : Nat → Nat × Nat} {I : xI} {R : xR} {L : xL} {P : xPost} {M : Nat} (hM : xModel sh R M) {V : xV} {B rc : Nat} {ars : Nat → xAR} (h : MDV I M V) (hv : VOK V B) (hB : B < 800000) (hr : mRings I M rc ars) (hV6 : V 8 6 ≤ rc) {b t : Nat} (hb : b < V 8 0) (ht : t < 5) (K : ∀ I2 : xI, MDV I2 M V → mdP M I I2 → P (n, sh, 0, 0) I2 R L (some (.int (match fN (fun n => dfs V (rgVal ars V) b n 0 (V 2, V 8 1)) 6 0 with | none => -5 | some w => nI w.length))))  : ∀ (w i : Nat), i + w = 6 → ∀ (J : xI), fN (fun n => dfs V (rgVal ars V) b n 0 (V 2, V 8 1)) 6 0 = fN (fun n => dfs V (rgVal ars V) b n 0 (V 2, V 8 1)) w i → mdS M I J → X T zX10_shortest 7 0 0 P 22 [(0, .ref M), (1, .int (nI b)), (2, .int (-1)), (3, .int (nI i))] [] (n, sh, 0, 0) (J) R L := by
  obtain ⟨v6, v12, v10, vb, vf, vw, vm, vta, vte, vod, vrg, vdi⟩ := id hv
  intro w
  induction w with
  | zero =>
    intro i hw J inv fj
    have hz : i = 6 := by omega
    refine x_iload_n (pc := 22) dX10_shortest_22 rfl rfl ?_
    refine x_bipush (pc := 23) (v := 6) dX10_shortest_23 (by decide) ?_
    refine x_icmpn_ge_t (pc := 25) (tgt := 68) (a := i) (b := 6) dX10_shortest_25 (by decide) (by omega) (by decide) (by omega) ?_
    refine x_bipush (pc := 68) (v := -5) dX10_shortest_68 (by decide) ?_
    refine x_ireturn (pc := 70) dX10_shortest_70 ⟨_, rfl, rfl⟩ ⟨Nat.le_refl _, Nat.le_refl _⟩ ?_
    have h9 := K J (h.keepS fj) fj.mdP
    rw [inv] at h9
    exact h9
  | succ w ih =>
    intro i hw J inv fj
    have hi : i < 6 := by omega
    refine x_iload_n (pc := 22) dX10_shortest_22 rfl rfl ?_
    refine x_bipush (pc := 23) (v := 6) dX10_shortest_23 (by decide) ?_
    refine x_icmpn_ge_f (pc := 25) (tgt := 68) (a := i) (b := 6) dX10_shortest_25 (by decide) (by omega) (by decide) (by omega) ?_
    refine x_aload_n (pc := 28) dX10_shortest_28 rfl rfl ?_
    refine x_iload_n (pc := 29) dX10_shortest_29 rfl rfl ?_
    refine x_iload_n (pc := 30) dX10_shortest_30 rfl rfl ?_
    refine x_callV (pc := 31) (As := [.int _, .int _]) dX10_shortest_31 km_X10_findWalk kv_X10_findWalk kl_RX10_359 hM.s rfl rfl (by decide) ⟨Nat.le_refl _, Nat.le_refl _⟩ rfl (Nat.le_of_ble_eq_true rfl) (Nat.le_of_ble_eq_true rfl) (m_findWalk (nn := i) hM (h.keepS fj) hv hB (hr.keep fj.mdP) hV6 hb (by omega) (fun J2 w9 h1 h3 m3 => ⟨rfl, rfl, ?_⟩) (fun J2 h1 m3 => ⟨rfl, rfl, ?_⟩))
    · skip
      refine x_if_eq_f (pc := 34) (tgt := 62) dX10_shortest_34 (by decide) (by decide) ?_
      refine x_iload_n (pc := 37) dX10_shortest_37 rfl rfl ?_
      refine x_if_ge_f (pc := 38) (tgt := 45) dX10_shortest_38 (by decide) (by decide) ?_
      refine x_iload_n (pc := 41) dX10_shortest_41 rfl rfl ?_
      refine x_goto (pc := 42) (tgt := 61) dX10_shortest_42 (by decide) ?_
      refine x_ireturn (pc := 61) dX10_shortest_61 ⟨_, rfl, rfl⟩ ⟨Nat.le_refl _, Nat.le_refl _⟩ ?_
      have hl := dfs_len i 0 _ w9 h1
      have h9 := K J2 (h.keepS (fj.tr m3)) (fj.tr m3).mdP
      rw [inv, show fN (fun n => dfs V (rgVal ars V) b n 0 (V 2, V 8 1)) (w + 1) i = (match dfs V (rgVal ars V) b i 0 (V 2, V 8 1) with | some w => some w | none => fN (fun n => dfs V (rgVal ars V) b n 0 (V 2, V 8 1)) w (i + 1)) from rfl, h1] at h9
      refine xvi h9 ?_
      show nI w9.length = nI i
      rw [hl]
    · skip
      refine x_if_eq_t (pc := 34) (tgt := 62) dX10_shortest_34 (by decide) (by decide) ?_
      refine x_iinc (pc := 62) (v := nI (i + 1)) (lv' := [(0, .ref M), (1, .int (nI b)), (2, .int (-1)), (3, .int (nI (i + 1)))]) dX10_shortest_62 rfl (nI_1 _) (by decide) rfl ?_
      refine x_goto (pc := 65) (tgt := 22) dX10_shortest_65 (by decide) ?_
      exact ih (i + 1) (by omega) J2 (inv.trans (by show (match dfs V (rgVal ars V) b i 0 (V 2, V 8 1) with | some w => some w | none => fN (fun n => dfs V (rgVal ars V) b n 0 (V 2, V 8 1)) w (i + 1)) = _; rw [h1])) (fj.tr m3)

set_option maxHeartbeats 4000000 in
set_option maxRecDepth 100000 in
theorem lm_sh0 {T : xT} {n : Nat} {sh : Nat → Nat × Nat} {I : xI} {R : xR} {L : xL} {P : xPost} {M : Nat} (hM : xModel sh R M) {V : xV} {B rc : Nat} {ars : Nat → xAR} (h : MDV I M V) (hv : VOK V B) (hB : B < 800000) (hr : mRings I M rc ars) (hV6 : V 8 6 ≤ rc) {b t : Nat} (hb : b < V 8 0) (ht : t < 5) (K : ∀ I2 : xI, MDV I2 M V → mdP M I I2 → P (n, sh, 0, 0) I2 R L (some (.int (match fN (fun n => dfs V (rgVal ars V) b n 0 (V 2, V 8 1)) 6 0 with | none => -5 | some w => if t < w.length then nI (w.getD t 0) else -5))))  : ∀ (w i : Nat), i + w = 6 → ∀ (J : xI), fN (fun n => dfs V (rgVal ars V) b n 0 (V 2, V 8 1)) 6 0 = fN (fun n => dfs V (rgVal ars V) b n 0 (V 2, V 8 1)) w i → mdS M I J → X T zX10_shortest 7 0 0 P 22 [(0, .ref M), (1, .int (nI b)), (2, .int (nI t)), (3, .int (nI i))] [] (n, sh, 0, 0) (J) R L := by
  obtain ⟨v6, v12, v10, vb, vf, vw, vm, vta, vte, vod, vrg, vdi⟩ := id hv
  intro w
  induction w with
  | zero =>
    intro i hw J inv fj
    have hz : i = 6 := by omega
    refine x_iload_n (pc := 22) dX10_shortest_22 rfl rfl ?_
    refine x_bipush (pc := 23) (v := 6) dX10_shortest_23 (by decide) ?_
    refine x_icmpn_ge_t (pc := 25) (tgt := 68) (a := i) (b := 6) dX10_shortest_25 (by decide) (by omega) (by decide) (by omega) ?_
    refine x_bipush (pc := 68) (v := -5) dX10_shortest_68 (by decide) ?_
    refine x_ireturn (pc := 70) dX10_shortest_70 ⟨_, rfl, rfl⟩ ⟨Nat.le_refl _, Nat.le_refl _⟩ ?_
    have h9 := K J (h.keepS fj) fj.mdP
    rw [inv] at h9
    exact h9
  | succ w ih =>
    intro i hw J inv fj
    have hi : i < 6 := by omega
    refine x_iload_n (pc := 22) dX10_shortest_22 rfl rfl ?_
    refine x_bipush (pc := 23) (v := 6) dX10_shortest_23 (by decide) ?_
    refine x_icmpn_ge_f (pc := 25) (tgt := 68) (a := i) (b := 6) dX10_shortest_25 (by decide) (by omega) (by decide) (by omega) ?_
    refine x_aload_n (pc := 28) dX10_shortest_28 rfl rfl ?_
    refine x_iload_n (pc := 29) dX10_shortest_29 rfl rfl ?_
    refine x_iload_n (pc := 30) dX10_shortest_30 rfl rfl ?_
    refine x_callV (pc := 31) (As := [.int _, .int _]) dX10_shortest_31 km_X10_findWalk kv_X10_findWalk kl_RX10_359 hM.s rfl rfl (by decide) ⟨Nat.le_refl _, Nat.le_refl _⟩ rfl (Nat.le_of_ble_eq_true rfl) (Nat.le_of_ble_eq_true rfl) (m_findWalk (nn := i) hM (h.keepS fj) hv hB (hr.keep fj.mdP) hV6 hb (by omega) (fun J2 w9 h1 h3 m3 => ⟨rfl, rfl, ?_⟩) (fun J2 h1 m3 => ⟨rfl, rfl, ?_⟩))
    · skip
      refine x_if_eq_f (pc := 34) (tgt := 62) dX10_shortest_34 (by decide) (by decide) ?_
      refine x_iload_n (pc := 37) dX10_shortest_37 rfl rfl ?_
      refine x_ifn_ge (pc := 38) (tgt := 45) (a := t) dX10_shortest_38 (by decide) (by omega) ?_
      refine x_iload_n (pc := 45) dX10_shortest_45 rfl rfl ?_
      refine x_iload_n (pc := 46) dX10_shortest_46 rfl rfl ?_
      refine x_icmpn_ge (pc := 47) (tgt := 59) (a := t) (b := i) dX10_shortest_47 (by decide) (by omega) (by omega) (fun c47 => ?_) (fun c47 => ?_)
      · skip
        refine x_bipush (pc := 59) (v := -5) dX10_shortest_59 (by decide) ?_
        refine x_ireturn (pc := 61) dX10_shortest_61 ⟨_, rfl, rfl⟩ ⟨Nat.le_refl _, Nat.le_refl _⟩ ?_
        have hl := dfs_len i 0 _ w9 h1
        have h9 := K J2 (h.keepS (fj.tr m3)) (fj.tr m3).mdP
        rw [inv, show fN (fun n => dfs V (rgVal ars V) b n 0 (V 2, V 8 1)) (w + 1) i = (match dfs V (rgVal ars V) b i 0 (V 2, V 8 1) with | some w => some w | none => fN (fun n => dfs V (rgVal ars V) b n 0 (V 2, V 8 1)) w (i + 1)) from rfl, h1] at h9
        refine xvi h9 ?_
        first | exact (if_pos (by omega)).trans (h3 t (by omega)).symm | exact if_neg (by omega)
      · skip
        refine x_aload_n (pc := 50) dX10_shortest_50 rfl rfl ?_
        refine x_getr (pc := 51) dX10_shortest_51 kf_RX10_141 hM.s rfl hM.f22 ?_
        refine x_iload_n (pc := 54) dX10_shortest_54 rfl rfl ?_
        refine x_ialdn (pc := 55) (a := t) dX10_shortest_55 hM.s22 (by omega) (by omega) ?_
        refine x_goto (pc := 56) (tgt := 61) dX10_shortest_56 (by decide) ?_
        refine x_ireturn (pc := 61) dX10_shortest_61 ⟨_, rfl, rfl⟩ ⟨Nat.le_refl _, Nat.le_refl _⟩ ?_
        have hl := dfs_len i 0 _ w9 h1
        have h9 := K J2 (h.keepS (fj.tr m3)) (fj.tr m3).mdP
        rw [inv, show fN (fun n => dfs V (rgVal ars V) b n 0 (V 2, V 8 1)) (w + 1) i = (match dfs V (rgVal ars V) b i 0 (V 2, V 8 1) with | some w => some w | none => fN (fun n => dfs V (rgVal ars V) b n 0 (V 2, V 8 1)) w (i + 1)) from rfl, h1] at h9
        refine xvi h9 ?_
        first | exact (if_pos (by omega)).trans (h3 t (by omega)).symm | exact if_neg (by omega)
    · skip
      refine x_if_eq_t (pc := 34) (tgt := 62) dX10_shortest_34 (by decide) (by decide) ?_
      refine x_iinc (pc := 62) (v := nI (i + 1)) (lv' := [(0, .ref M), (1, .int (nI b)), (2, .int (nI t)), (3, .int (nI (i + 1)))]) dX10_shortest_62 rfl (nI_1 _) (by decide) rfl ?_
      refine x_goto (pc := 65) (tgt := 22) dX10_shortest_65 (by decide) ?_
      exact ih (i + 1) (by omega) J2 (inv.trans (by show (match dfs V (rgVal ars V) b i 0 (V 2, V 8 1) with | some w => some w | none => fN (fun n => dfs V (rgVal ars V) b n 0 (V 2, V 8 1)) w (i + 1)) = _; rw [h1])) (fj.tr m3)

set_option maxHeartbeats 4000000 in
set_option maxRecDepth 100000 in
theorem m_shortestIt {T : xT} {n : Nat} {sh : Nat → Nat × Nat} {I : xI} {R : xR} {L : xL} {P : xPost} {M : Nat} (hM : xModel sh R M) {V : xV} {B rc : Nat} {ars : Nat → xAR} (h : MDV I M V) (hv : VOK V B) (hB : B < 800000) (hr : mRings I M rc ars) (hV6 : V 8 6 ≤ rc) {x y : Int32} (K : ∀ I2 : xI, MDV I2 M V → mdP M I I2 → P (n, sh, 0, 0) I2 R L (some (.int (spShort V (rgVal ars V) x y))))  : XM T zX10_shortest 7 [.ref M, .int x, .int y] n sh I R L P := by
  obtain ⟨v6, v12, v10, vb, vf, vw, vm, vta, vte, vod, vrg, vdi⟩ := id hv
  refine x_aload_n (pc := 0) dX10_shortest_0 rfl rfl ?_
  refine x_iload_n (pc := 1) dX10_shortest_1 rfl rfl ?_
  refine x_callV (pc := 2) (As := [.int _]) dX10_shortest_2 km_X10_isBeast kv_X10_isBeast kl_RX10_246 hM.s rfl rfl (by decide) ⟨Nat.le_refl _, Nat.le_refl _⟩ rfl (Nat.le_of_ble_eq_true rfl) (Nat.le_of_ble_eq_true rfl) (m_isBeast hM h.1 v6 (fun k hk ek => ⟨rfl, rfl, ?_⟩) (fun h1 => ⟨rfl, rfl, ?_⟩))
  · skip
    subst ek
    refine x_if_eq_f (pc := 5) (tgt := 18) dX10_shortest_5 (by decide) (by decide) ?_
    refine x_aload_n (pc := 8) dX10_shortest_8 rfl rfl ?_
    refine x_iload_n (pc := 9) dX10_shortest_9 rfl rfl ?_
    refine x_iconst (pc := 10) (v := -1) dX10_shortest_10 (by decide) ?_
    refine x_iconst (pc := 11) (v := 4) dX10_shortest_11 (by decide) ?_
    refine x_callV (pc := 12) (As := [.int _, .int _, .int _]) dX10_shortest_12 km_X10_in kv_X10_in kl_RX10_231 hM.s rfl rfl (by decide) ⟨Nat.le_refl _, Nat.le_refl _⟩ rfl (Nat.le_of_ble_eq_true rfl) (Nat.le_of_ble_eq_true rfl) (m_in hM.s (fun p1 p2 => ⟨rfl, rfl, ?_⟩) (fun g1 => ⟨rfl, rfl, ?_⟩))
    · skip
      refine x_if_ne_t (pc := 15) (tgt := 20) dX10_shortest_15 (by decide) (by decide) ?_
      refine x_iconst (pc := 20) (v := 0) dX10_shortest_20 (by decide) ?_
      refine x_istore_n (pc := 21) (lv' := [(0, .ref M), (1, .int (nI k)), (2, .int y), (3, .int 0)]) dX10_shortest_21 rfl (by decide) rfl ?_
      rcases neg1_lit p1 p2 with ey | ⟨t, ht, ey⟩
      · subst ey
        refine lm_sh1 hM h hv hB hr hV6 hk (t := 0) (by decide) (fun I2 q1 q2 => ?_) 6 0 (by omega) I rfl mdS.rf
        have h9 := K I2 q1 q2
        rw [spSh_b v6 hk (by decide)] at h9
        refine xvi h9 ?_
        show (match shR V (rgVal ars V) k with | none => -5 | some w => if (-1 : Int32) = -1 then nI w.length else _) = (match shR V (rgVal ars V) k with | none => -5 | some w => nI w.length)
        cases shR V (rgVal ars V) k with
        | none => rfl
        | some w => exact if_pos rfl
      · subst ey
        refine lm_sh0 hM h hv hB hr hV6 hk ht (fun I2 q1 q2 => ?_) 6 0 (by omega) I rfl mdS.rf
        have h9 := K I2 q1 q2
        rw [spSh_b v6 hk (fun z => z.elim p1 p2)] at h9
        refine xvi h9 ?_
        show (match shR V (rgVal ars V) k with | none => -5 | some w => if nI t = -1 then nI w.length else if (nI t).toNatClampNeg < w.length then nI (w.getD (nI t).toNatClampNeg 0) else -5) = (match shR V (rgVal ars V) k with | none => -5 | some w => if t < w.length then nI (w.getD t 0) else -5)
        cases shR V (rgVal ars V) k with
        | none => rfl
        | some w =>
          show (if nI t = -1 then nI w.length else if (nI t).toNatClampNeg < w.length then nI (w.getD (nI t).toNatClampNeg 0) else -5) = (if t < w.length then nI (w.getD t 0) else -5)
          rw [if_neg (nI_nem (by omega)), nI_clamp (by omega)]
    · skip
      refine x_if_ne_f (pc := 15) (tgt := 20) dX10_shortest_15 (by decide) (by decide) ?_
      refine x_iconst (pc := 18) (v := -1) dX10_shortest_18 (by decide) ?_
      refine x_ireturn (pc := 19) dX10_shortest_19 ⟨_, rfl, rfl⟩ ⟨Nat.le_refl _, Nat.le_refl _⟩ ?_
      have e9 : spShort V (rgVal ars V) (nI k) y = -1 := by first | exact spSh_x h1 | exact spSh_y g1
      have h9 := K I h mdP.rf
      rw [e9] at h9
      exact h9
  · skip
    refine x_if_eq_t (pc := 5) (tgt := 18) dX10_shortest_5 (by decide) (by decide) ?_
    refine x_iconst (pc := 18) (v := -1) dX10_shortest_18 (by decide) ?_
    refine x_ireturn (pc := 19) dX10_shortest_19 ⟨_, rfl, rfl⟩ ⟨Nat.le_refl _, Nat.le_refl _⟩ ?_
    have e9 : spShort V (rgVal ars V) (x) y = -1 := by first | exact spSh_x h1 | exact spSh_y g1
    have h9 := K I h mdP.rf
    rw [e9] at h9
    exact h9

