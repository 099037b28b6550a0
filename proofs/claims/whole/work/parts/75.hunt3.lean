/-! ===== shortest: the class, whole ===== -/
set_option maxHeartbeats 4000000 in
set_option maxRecDepth 100000 in
theorem l_srch {T : xT} {n : Nat} {sh : Nat → Nat × Nat} {I : xI} {R : xR} {L : xL} {P : xPost} {tr hu b : Nat} {V : xV} {B : Nat} {o : Option xAR} (hv : VOK V B) (hB : B < 800000) (hH : xHunt sh R hu) (htr : tr + 18 ≤ hu) (hb : b < V 8 0) (hrg : ∀ rg, R tr 11 = some rg → ∀ k, 1 ≤ k → k ≤ 6 → rg + k ≠ hu + 2 ∧ rg + k ≠ hu + 3 ∧ rg + k ≠ hu + 4 ∧ rg + k ≠ hu + 5) {q0 : List xE} (K1 : ∀ (J : xI) (Q : xL) (wk : List Nat), bfs V o b 781 q0 = some wk → wk.length ≤ 5 → J hu 3 = nI wk.length → J hu 4 = nI (cdN wk) → huP tr hu I J → huL hu L Q → P (n, sh, 0, 0) J R Q none) (K2 : ∀ (J : xI) (Q : xL), bfs V o b 781 q0 = none → J hu 3 = -5 → huP tr hu I J → huL hu L Q → P (n, sh, 0, 0) J R Q none)  : ∀ (w i : Nat), i + w = 781 → ∀ (J : xI) (Q : xL) (pre9 es0 : List xE) (ce : Nat → Nat) (ta te : Nat), pre9.length = i → (pre9 ++ es0).length + pot es0 ≤ 781 → (∀ x ∈ pre9 ++ es0, EOK V x) → bfs V o b 781 q0 = bfs V o b w es0 → HQ J Q hu (V 8 0) (pre9 ++ es0) → J hu 3 = -5 → SC sh R J tr (V 8 0) (V 0) (V 1) ce (V 3) (V 4) ta te 0 (lnO o) → huP tr hu I J → huL hu L Q → X T zX1_search 6 0 0 P 48 [(0, .ref hu), (1, .ref tr), (2, .int (nI b)), (3, .int (nI (V 8 2))), (4, .int (nI i))] [] (n, sh, 0, 0) (J) R Q := by
  obtain ⟨v6, v12, v10, vb, vf, vw, vm, vta, vte, vod, vrg, vdi⟩ := id hv
  intro w
  induction w with
  | zero =>
    intro i hw J Q pre9 es0 ce ta te hpl hbd hok hbf hq h5 hj fj fq
    have hz : i = 781 := by omega
    have hS := hj.1
    refine x_iload (pc := 48) dX1_search_48 rfl ?_
    refine x_aload_n (pc := 50) dX1_search_50 rfl rfl ?_
    refine x_getr (pc := 51) dX1_search_51 kf_RX1_20 hH.1 rfl hH.2.2.2.1 ?_
    refine x_get (pc := 54) dX1_search_54 kf_RX1_50 hH.2.2.2.2.2.1.1 rfl ?_
    rw [hq.1]
    refine x_icmpn_ge_t (pc := 57) (tgt := 235) (a := i) (b := (pre9 ++ es0).length) dX1_search_57 (by decide) (by omega) (by omega) (by omega) ?_
    refine x_return (pc := 235) dX1_search_235 rfl ⟨Nat.le_refl _, Nat.le_refl _⟩ ?_
    have la : (pre9 ++ es0).length = i + es0.length := by rw [List.length_append, hpl]
    have e0 : es0 = [] := List.eq_nil_of_length_eq_zero (by omega)
    subst e0
    exact K2 J Q (hbf.trans rfl) h5 fj fq
  | succ w ih =>
    intro i hw J Q pre9 es0 ce ta te hpl hbd hok hbf hq h5 hj fj fq
    have hi : i < 781 := by omega
    have hS := hj.1
    have lb : (pre9 ++ es0).length ≤ 781 := by omega
    have la : (pre9 ++ es0).length = i + es0.length := by rw [List.length_append, hpl]
    refine x_iload (pc := 48) dX1_search_48 rfl ?_
    refine x_aload_n (pc := 50) dX1_search_50 rfl rfl ?_
    refine x_getr (pc := 51) dX1_search_51 kf_RX1_20 hH.1 rfl hH.2.2.2.1 ?_
    refine x_get (pc := 54) dX1_search_54 kf_RX1_50 hH.2.2.2.2.2.1.1 rfl ?_
    rw [hq.1]
    refine x_icmpn_ge (pc := 57) (tgt := 235) (a := i) (b := (pre9 ++ es0).length) dX1_search_57 (by decide) (by omega) (by omega) (fun c57 => ?_) (fun c57 => ?_)
    · skip
      refine x_return (pc := 235) dX1_search_235 rfl ⟨Nat.le_refl _, Nat.le_refl _⟩ ?_
      have e0 : es0 = [] := List.eq_nil_of_length_eq_zero (by omega)
      subst e0
      exact K2 J Q (hbf.trans rfl) h5 fj fq
    · skip
      obtain ⟨e, es, ee⟩ : ∃ e es, es0 = e :: es := by
        rcases es0 with _|⟨e, es⟩
        · exact absurd la (by rw [List.length_nil]; omega)
        · exact ⟨e, es, rfl⟩
      subst ee
      have hie : (pre9 ++ e :: es)[i]? = some e := by
        rw [List.getElem?_append_right (by omega), hpl, Nat.sub_self]
        rfl
      refine x_iload (pc := 60) dX1_search_60 rfl ?_
      refine x_sipush (pc := 62) (v := 781) dX1_search_62 (by decide) ?_
      refine x_icmpn_ge_f (pc := 65) (tgt := 235) (a := i) (b := 781) dX1_search_65 (by decide) (by omega) (by decide) (by omega) ?_
      refine x_iload (pc := 68) dX1_search_68 rfl ?_
      refine x_aload_n (pc := 70) dX1_search_70 rfl rfl ?_
      refine x_getr (pc := 71) dX1_search_71 kf_RX1_11 hH.1 rfl hH.2.1 ?_
      refine x_alen (pc := 74) (v := 781) dX1_search_74 hH.2.2.1 ⟨by decide, by decide⟩ (by decide) ?_
      refine x_icmpn_ge_f (pc := 75) (tgt := 235) (a := i) (b := 781) dX1_search_75 (by decide) (by omega) (by decide) (by omega) ?_
      refine x_aload_n (pc := 78) dX1_search_78 rfl rfl ?_
      refine x_getr (pc := 79) dX1_search_79 kf_RX1_24 hH.1 rfl hH.2.2.2.2.1 ?_
      refine x_iload (pc := 82) dX1_search_82 rfl ?_
      refine x_callV (pc := 84) (As := [.int _]) dX1_search_84 km_X5_at kv_X5_at kl_RX1_53 hH.2.2.2.2.2.2.1 rfl rfl (by decide) ⟨Nat.le_refl _, Nat.le_refl _⟩ rfl (Nat.le_of_ble_eq_true rfl) (Nat.le_of_ble_eq_true rfl) (c_at hH.2.2.2.2.2.2 (⟨rfl, rfl, ?_⟩))
      rw [hq.2.1, rAt_in (m := (pre9 ++ e :: es).length) (by omega) (by omega) (by decide), (hq.2.2 i e hie).2.2]
      refine x_iconst (pc := 87) (v := 1) dX1_search_87 (by decide) ?_
      refine x_iaddn (pc := 88) (a := e.2.length) (b := 1) dX1_search_88 ?_
      refine x_istore (pc := 89) (lv' := [(0, .ref hu), (1, .ref tr), (2, .int (nI b)), (3, .int (nI (V 8 2))), (4, .int (nI i)), (5, .int (nI (e.2.length + 1)))]) dX1_search_89 (by decide) rfl ?_
      refine x_iconst (pc := 91) (v := 0) dX1_search_91 (by decide) ?_
      refine x_istore (pc := 92) (lv' := [(0, .ref hu), (1, .ref tr), (2, .int (nI b)), (3, .int (nI (V 8 2))), (4, .int (nI i)), (5, .int (nI (e.2.length + 1))), (6, .int 0)]) dX1_search_92 (by decide) rfl ?_
      have hq7 : (pre9 ++ e :: es).length ≤ 781 := by omega
      have hpe : pot (e :: es) = gq e.2.length + pot es := rfl
      rw [hpe] at hbd
      have hke : EOK V e := hok e (List.mem_append_right _ List.mem_cons_self)
      refine l_in hv hB hH htr hb hke hie hok hq7 (fun z => ?_) hrg (fun J2 Q2 wk m9 h1 h2 h3 h4 h6 h7 f2 g2 => ?_) (fun J2 Q2 ce2 ta2 te2 h1 h2 h3 h4 f2 g2 => ?_) 5 0 (by omega) J Q ce ta te hq h5 rfl hj (fun _ _ _ => rfl) (fun _ _ => rfl)
      · have z2 := gq_s e.2.length z
        omega
      · have hbe : bfs V o b 781 q0 = some wk := hbf.trans (by show (match fnd V o b e with | some r => some r | none => bfs V o b w (wkL (V 8 0) es (kids V o b e))) = some wk; rw [h1])
        refine x_iinc (pc := 229) (v := nI (i + 1)) (lv' := [(0, .ref hu), (1, .ref tr), (2, .int (nI b)), (3, .int (nI (V 8 2))), (4, .int (nI (i + 1)))]) dX1_search_229 rfl (nI_1 _) (by decide) rfl ?_
        refine x_goto (pc := 232) (tgt := 48) dX1_search_232 (by decide) ?_
        exact l_srchF hH h7 (nn := wk.length) (by omega) h3 h6 (K1 J2 Q2 wk hbe h2 h3 h4 (fun a p1 p2 => (f2 a p1 p2).trans (fj a p1 p2)) (fun a p => (g2 a p).trans (fq a p))) (782 - (i + 1)) (i + 1) (by omega)
      · refine x_iinc (pc := 229) (v := nI (i + 1)) (lv' := [(0, .ref hu), (1, .ref tr), (2, .int (nI b)), (3, .int (nI (V 8 2))), (4, .int (nI (i + 1)))]) dX1_search_229 rfl (nI_1 _) (by decide) rfl ?_
        refine x_goto (pc := 232) (tgt := 48) dX1_search_232 (by decide) ?_
        obtain ⟨nw, hnw, hnl, hnm⟩ := wkL_is (nb := V 8 0) (kids V o b e) es
        have eq0 : pre9 ++ e :: es = (pre9 ++ [e]) ++ es := by simp
        have eq1 : wkL (V 8 0) (pre9 ++ e :: es) (kids V o b e) = (pre9 ++ [e]) ++ wkL (V 8 0) es (kids V o b e) := by
          rw [eq0]
          exact wkL_cut (kids V o b e) es (fun x hx => by rw [(kids_mem hx).1]; omega)
        have kl := kids_room (V := V) (o := o) (b := b) (m := (pre9 ++ e :: es).length) (e := e) (es := es) hbd rfl hnl hnm
        have ln1 : ((pre9 ++ [e]) ++ wkL (V 8 0) es (kids V o b e)).length = (pre9 ++ e :: es).length + nw.length := by
          rw [hnw]
          simp only [List.length_append, List.length_cons, List.length_nil]
          omega
        exact ih (i + 1) (by omega) J2 Q2 (pre9 ++ [e]) (wkL (V 8 0) es (kids V o b e)) ce2 ta2 te2 (by rw [List.length_append, hpl]; rfl) (by rw [ln1, hnw]; exact kl) (fun x hx => by
          rw [hnw] at hx
          rcases List.mem_append.mp hx with z | z
          · exact hok x (by rw [eq0]; exact List.mem_append_left _ z)
          · rcases List.mem_append.mp z with z | z
            · exact hok x (by rw [eq0]; exact List.mem_append_right _ z)
            · exact kids_ok hke (hnm x z)) (hbf.trans (by show (match fnd V o b e with | some r => some r | none => bfs V o b w (wkL (V 8 0) es (kids V o b e))) = _; rw [h1])) (by rw [← eq1]; exact h2) h3 h4 (fun a p1 p2 => (f2 a p1 p2).trans (fj a p1 p2)) (fun a p => (g2 a p).trans (fq a p))

theorem SC.keepHu {sh : Nat → Nat × Nat} {R : xR} {I I' : xI} {b nb ta te lo : Nat} {ki ve ce sto hu : Nat → Nat} {o : Option xAR} (h : SC sh R I b nb ki ve ce sto hu ta te lo (lnO o)) (hh : Nat) (hb : b + 18 ≤ hh) (h1 : ∀ a, a ≠ hh → a ≠ hh + 2 → a ≠ hh + 3 → a ≠ hh + 4 → a ≠ hh + 5 → I' a = I a) (hs : ∀ rg, R b 11 = some rg → ∀ k, 1 ≤ k → k ≤ 6 → rg + k ≠ hh ∧ rg + k ≠ hh + 2 ∧ rg + k ≠ hh + 3 ∧ rg + k ≠ hh + 4 ∧ rg + k ≠ hh + 5) : SC sh R I' b nb ki ve ce sto hu ta te lo (lnO o) := by
  obtain ⟨a1, a2, a3, a4, a5, a6, a7, a8, a9, a10, a11, a12, a13, a14, a15⟩ := h
  have k : ∀ j, j ≤ 17 → I' (b + j) = I (b + j) := fun j hj => h1 _ (by omega) (by omega) (by omega) (by omega) (by omega)
  have k0 : I' b = I b := k 0 (by omega)
  refine ⟨a1, a2, a3.keep (k 1 (by omega)) (k 2 (by omega)), a4.keep (k 3 (by omega)) (k 4 (by omega)), a5.keep (k 5 (by omega)) (k 6 (by omega)), a6.keep (k 7 (by omega)) (k 8 (by omega)), a7.keep (k 9 (by omega)) (k 10 (by omega)), a8, by rw [k0]; exact a9, a10, by rw [k0]; exact a11, a12, by rw [k0]; exact a13, a14, ?_⟩
  rcases a15 with q | ⟨rg, q1, q2, q3⟩
  · exact Or.inl q
  · refine Or.inr ⟨rg, q1, q2, ?_⟩
    have e : ∀ k, 1 ≤ k → k ≤ 6 → I' (rg + k) = I (rg + k) := fun k p1 p2 => by
      obtain ⟨z0, z1, z2, z3, z4⟩ := hs rg q1 k p1 p2
      exact h1 _ z0 z1 z2 z3 z4
    revert q3
    unfold rgEval
    rw [e 1 (by omega) (by omega), e 2 (by omega) (by omega), e 3 (by omega) (by omega), e 4 (by omega) (by omega), e 5 (by omega) (by omega), e 6 (by omega) (by omega)]
    exact id
theorem HQ.nil {I : xI} {L : xL} {hu nb : Nat} (h1 : I (hu + 2) 1 = 0) (h2 : I (hu + 4) 1 = 0) : HQ I L hu nb [] := ⟨h1, h2, fun j e he => by cases he⟩

set_option maxHeartbeats 4000000 in
set_option maxRecDepth 100000 in
theorem c_search {T : xT} {n : Nat} {sh : Nat → Nat × Nat} {I : xI} {R : xR} {L : xL} {P : xPost} {tr hu b : Nat} {V : xV} {B : Nat} {o : Option xAR} (hv : VOK V B) (hB : B < 800000) (hH : xHunt sh R hu) (htr : tr + 18 ≤ hu) (hb : b < V 8 0) (hrg : ∀ rg, R tr 11 = some rg → ∀ k, 1 ≤ k → k ≤ 6 → rg + k ≠ hu ∧ rg + k ≠ hu + 2 ∧ rg + k ≠ hu + 3 ∧ rg + k ≠ hu + 4 ∧ rg + k ≠ hu + 5) (h : SC sh R I tr (V 8 0) (V 0) (V 1) (V 2) (V 3) (V 4) (V 8 1) (V 8 2) 0 (lnO o)) (K1 : ∀ (J : xI) (Q : xL) (wk : List Nat), shC V o b = some wk → wk.length ≤ 5 → J hu 3 = nI wk.length → (0 < wk.length → J hu 4 = nI (cdN wk)) → huP tr hu I J → huL hu L Q → P (n, sh, 0, 0) J R Q none) (K2 : ∀ (J : xI) (Q : xL), shC V o b = none → J hu 3 = -5 → huP tr hu I J → huL hu L Q → P (n, sh, 0, 0) J R Q none)  : XM T zX1_search 6 [.ref hu, .ref tr, .int (nI b)] n sh I R L P := by
  obtain ⟨v6, v12, v10, vb, vf, vw, vm, vta, vte, vod, vrg, vdi⟩ := id hv
  have hS := h.1
  refine x_aload_n (pc := 0) dX1_search_0 rfl rfl ?_
  refine x_get (pc := 1) dX1_search_1 kf_RX1_34 hS.1 rfl ?_
  rw [h.2.2.2.2.2.2.2.2.2.2.1]
  refine x_istore_n (pc := 4) (lv' := [(0, .ref hu), (1, .ref tr), (2, .int (nI b)), (3, .int (nI (V 8 2)))]) dX1_search_4 rfl (by decide) rfl ?_
  refine x_aload_n (pc := 5) dX1_search_5 rfl rfl ?_
  refine x_getr (pc := 6) dX1_search_6 kf_RX1_20 hH.1 rfl hH.2.2.2.1 ?_
  refine x_callV (pc := 9) (As := []) dX1_search_9 km_X5_clear kv_X5_clear kl_RX1_39 hH.2.2.2.2.2.1.1 rfl rfl (by decide) ⟨Nat.le_refl _, Nat.le_refl _⟩ rfl (Nat.le_of_ble_eq_true rfl) (Nat.le_of_ble_eq_true rfl) (c_clear hH.2.2.2.2.2.1 (⟨rfl, rfl, ?_⟩))
  refine x_aload_n (pc := 12) dX1_search_12 rfl rfl ?_
  refine x_getr (pc := 13) dX1_search_13 kf_RX1_24 hH.1 rfl hH.2.2.2.2.1 ?_
  refine x_callV (pc := 16) (As := []) dX1_search_16 km_X5_clear kv_X5_clear kl_RX1_39 hH.2.2.2.2.2.2.1 rfl rfl (by decide) ⟨Nat.le_refl _, Nat.le_refl _⟩ rfl (Nat.le_of_ble_eq_true rfl) (Nat.le_of_ble_eq_true rfl) (c_clear hH.2.2.2.2.2.2 (⟨rfl, rfl, ?_⟩))
  have h1 : SC sh R (up2 (up2 I (hu + 2) 1 0) (hu + 4) 1 0) tr (V 8 0) (V 0) (V 1) (V 2) (V 3) (V 4) (V 8 1) (V 8 2) 0 (lnO o) := h.keepHi hu htr (fun a p1 p2 p3 p4 => (up2_row p3).trans (up2_row p1)) (fun rg q k p1 p2 => (hrg rg q k p1 p2).2)
  refine x_aload_n (pc := 19) dX1_search_19 rfl rfl ?_
  refine x_aload_n (pc := 20) dX1_search_20 rfl rfl ?_
  refine x_iload_n (pc := 21) dX1_search_21 rfl rfl ?_
  refine x_callV (pc := 22) (As := [.int _]) dX1_search_22 km_X6_isSeated kv_X6_isSeated kl_RX1_42 hS.1 rfl rfl (by decide) ⟨Nat.le_refl _, Nat.le_refl _⟩ rfl (Nat.le_of_ble_eq_true rfl) (Nat.le_of_ble_eq_true rfl) (c_isSeated (bi := b) hS h1.2.2.2.2.1 h1.2.2.2.2.2.1 v6 (fun a ha => (vb a ha).2.2.1) (fun a ha => (vb a ha).2.2.2.1) hb (fun se => ⟨rfl, rfl, ?_⟩) (fun se => ⟨rfl, rfl, ?_⟩))
  · skip
    refine x_if_eq_f (pc := 25) (tgt := 32) dX1_search_25 (by decide) (by decide) ?_
    refine x_iconst (pc := 28) (v := 0) dX1_search_28 (by decide) ?_
    refine x_goto (pc := 29) (tgt := 34) dX1_search_29 (by decide) ?_
    refine x_put (pc := 34) dX1_search_34 kf_RX1_27 hH.1 rfl (Or.inl kb_1_3) ?_
    have h2 : SC sh R (up2 (up2 (up2 I (hu + 2) 1 0) (hu + 4) 1 0) hu 3 0) tr (V 8 0) (V 0) (V 1) (V 2) (V 3) (V 4) (V 8 1) (V 8 2) 0 (lnO o) := h.keepHu hu htr (fun a p0 p1 p2 p3 p4 => (up2_row p0).trans ((up2_row p3).trans (up2_row p1))) hrg
    have hq : HQ (up2 (up2 (up2 I (hu + 2) 1 0) (hu + 4) 1 0) hu 3 0) L hu (V 8 0) [] := HQ.nil ((congrFun (up2_row (by omega)) 1).trans ((congrFun (up2_row (by omega)) 1).trans up2_s)) ((congrFun (up2_row (by omega)) 1).trans up2_s)
    refine x_aload_n (pc := 37) dX1_search_37 rfl rfl ?_
    refine x_aload_n (pc := 38) dX1_search_38 rfl rfl ?_
    refine x_iload_n (pc := 39) dX1_search_39 rfl rfl ?_
    refine x_iconst (pc := 40) (v := 0) dX1_search_40 (by decide) ?_
    refine x_iconst (pc := 41) (v := 0) dX1_search_41 (by decide) ?_
    refine x_callV (pc := 42) (As := [.ref _, .int _, .int _, .int _]) dX1_search_42 km_X1_keep kv_X1_keep kl_RX1_46 hH.1 rfl rfl (by decide) ⟨Nat.le_refl _, Nat.le_refl _⟩ rfl (Nat.le_of_ble_eq_true rfl) (Nat.le_of_ble_eq_true rfl) (c_keepB hH h2 hb hq (by decide) (fun x hx => by cases hx) (by decide) (by omega) (fun _ => by decide) (fun kk ik => ⟨rfl, rfl, ?_⟩) (fun kk => ⟨rfl, rfl, ?_⟩) (fun kk ik => ⟨rfl, rfl, ?_⟩))
    · skip
      refine x_iconst (pc := 45) (v := 0) dX1_search_45 (by decide) ?_
      refine x_istore (pc := 46) (lv' := [(0, .ref hu), (1, .ref tr), (2, .int (nI b)), (3, .int (nI (V 8 2))), (4, .int 0)]) dX1_search_46 (by decide) rfl ?_
      first
      | (have e9 : shC V o b = some [] := if_pos (seat_t se)
         exact l_srchF hH (m := 1) (by decide) (nn := 0) (by decide) ((congrFun ((up2_row (by omega)).trans ((up2_row (by omega)).trans ((up2_row (by omega)).trans (up2_row (by omega))))) 3).trans up2_s) ((congrFun ((up2_row (by omega)).trans (up2_row (by omega))) 1).trans up2_s) (K1 _ _ [] e9 (by decide) ((congrFun ((up2_row (by omega)).trans ((up2_row (by omega)).trans ((up2_row (by omega)).trans (up2_row (by omega))))) 3).trans up2_s) (fun z => absurd z (by decide)) (fun a p1 p2 => (up2_row (by omega)).trans ((up2_row (by omega)).trans ((up2_row (by omega)).trans ((up2_row (by omega)).trans ((fun a p1 p2 => (up2_row (by omega)).trans ((up2_row (by omega)).trans (up2_row (by omega)))) a p1 p2))))) (fun a p => up2_row p)) 782 0 (by omega))
      | (have e9 : shC V o b = some [] := if_pos (seat_t se)
         exact l_srchF hH (m := 0) (by decide) (nn := 0) (by decide) up2_s hq.1 (K1 _ _ [] e9 (by decide) up2_s (fun z => absurd z (by decide)) (fun a p1 p2 => (up2_row (by omega)).trans ((up2_row (by omega)).trans (up2_row (by omega)))) (fun _ _ => rfl)) 782 0 (by omega))
      | (have e9 : shC V o b = bfs V o b 781 [((V 2, V 8 1), [])] := (if_neg (seat_f se)).trans (if_pos (kok_t kk))
         have ha := hq.add (s := (V 2, V 8 1)) (w := []) (x := 0) rfl
         refine l_srch hv hB hH htr hb (fun rg q k p1 p2 => (hrg rg q k p1 p2).2) (q0 := [((V 2, V 8 1), [])]) (fun J Q wk h1 h3 h4 h5 f g => K1 J Q wk (e9.trans h1) h3 h4 (fun _ => h5) (fun a p1 p2 => (f a p1 p2).trans ((up2_row (by omega)).trans ((up2_row (by omega)).trans ((up2_row (by omega)).trans ((up2_row (by omega)).trans ((fun a p1 p2 => (up2_row (by omega)).trans ((up2_row (by omega)).trans (up2_row (by omega)))) a p1 p2)))))) (fun a p => (g a p).trans (up2_row p))) (fun J Q h1 h3 f g => K2 J Q (e9.trans h1) h3 (fun a p1 p2 => (f a p1 p2).trans ((up2_row (by omega)).trans ((up2_row (by omega)).trans ((up2_row (by omega)).trans ((up2_row (by omega)).trans ((fun a p1 p2 => (up2_row (by omega)).trans ((up2_row (by omega)).trans (up2_row (by omega)))) a p1 p2)))))) (fun a p => (g a p).trans (up2_row p))) 781 0 (by omega) _ _ [] [((V 2, V 8 1), [])] (V 2) (V 8 1) (V 8 2) rfl (show 1 + (780 + 0) ≤ 781 from by decide) (fun x hx => ?_) rfl ha ((congrFun ((up2_row (by omega)).trans ((up2_row (by omega)).trans ((up2_row (by omega)).trans (up2_row (by omega))))) 3).trans up2_s) (h2.keepHi hu htr (fun a p1 p2 p3 p4 => (up2_row p3).trans ((up2_row p4).trans ((up2_row p1).trans (up2_row p2)))) (fun rg q k p1 p2 => (hrg rg q k p1 p2).2)) (fun _ _ _ => rfl) (fun _ _ => rfl)
         rw [List.mem_singleton.mp hx]
         exact ⟨⟨vta, fun i hi => (vb i hi).2.2.1⟩, by show 0 ≤ 4; omega, fun c hc => by cases hc⟩)
      | (have e9 : shC V o b = none := (if_neg (seat_f se)).trans (if_neg (kok_f kk))
         refine l_srch hv hB hH htr hb (fun rg q k p1 p2 => (hrg rg q k p1 p2).2) (q0 := []) (fun J Q wk h1 h3 h4 h5 f g => ?_) (fun J Q h1 h3 f g => K2 J Q e9 h3 (fun a p1 p2 => (f a p1 p2).trans ((fun a p1 p2 => (up2_row (by omega)).trans ((up2_row (by omega)).trans (up2_row (by omega)))) a p1 p2)) g) 781 0 (by omega) _ _ [] [] (V 2) (V 8 1) (V 8 2) rfl (by decide) (fun x (hx : x ∈ ([] : List xE)) => by cases hx) rfl hq up2_s h2 (fun _ _ _ => rfl) (fun _ _ => rfl)
         rw [bfs_nil] at h1
         cases h1)
      | exact absurd (show false = true from ik) (by decide)
    · skip
      refine x_iconst (pc := 45) (v := 0) dX1_search_45 (by decide) ?_
      refine x_istore (pc := 46) (lv' := [(0, .ref hu), (1, .ref tr), (2, .int (nI b)), (3, .int (nI (V 8 2))), (4, .int 0)]) dX1_search_46 (by decide) rfl ?_
      first
      | (have e9 : shC V o b = some [] := if_pos (seat_t se)
         exact l_srchF hH (m := 1) (by decide) (nn := 0) (by decide) ((congrFun ((up2_row (by omega)).trans ((up2_row (by omega)).trans ((up2_row (by omega)).trans (up2_row (by omega))))) 3).trans up2_s) ((congrFun ((up2_row (by omega)).trans (up2_row (by omega))) 1).trans up2_s) (K1 _ _ [] e9 (by decide) ((congrFun ((up2_row (by omega)).trans ((up2_row (by omega)).trans ((up2_row (by omega)).trans (up2_row (by omega))))) 3).trans up2_s) (fun z => absurd z (by decide)) (fun a p1 p2 => (up2_row (by omega)).trans ((up2_row (by omega)).trans ((up2_row (by omega)).trans ((up2_row (by omega)).trans ((fun a p1 p2 => (up2_row (by omega)).trans ((up2_row (by omega)).trans (up2_row (by omega)))) a p1 p2))))) (fun a p => up2_row p)) 782 0 (by omega))
      | (have e9 : shC V o b = some [] := if_pos (seat_t se)
         exact l_srchF hH (m := 0) (by decide) (nn := 0) (by decide) up2_s hq.1 (K1 _ _ [] e9 (by decide) up2_s (fun z => absurd z (by decide)) (fun a p1 p2 => (up2_row (by omega)).trans ((up2_row (by omega)).trans (up2_row (by omega)))) (fun _ _ => rfl)) 782 0 (by omega))
      | (have e9 : shC V o b = bfs V o b 781 [((V 2, V 8 1), [])] := (if_neg (seat_f se)).trans (if_pos (kok_t kk))
         have ha := hq.add (s := (V 2, V 8 1)) (w := []) (x := 0) rfl
         refine l_srch hv hB hH htr hb (fun rg q k p1 p2 => (hrg rg q k p1 p2).2) (q0 := [((V 2, V 8 1), [])]) (fun J Q wk h1 h3 h4 h5 f g => K1 J Q wk (e9.trans h1) h3 h4 (fun _ => h5) (fun a p1 p2 => (f a p1 p2).trans ((up2_row (by omega)).trans ((up2_row (by omega)).trans ((up2_row (by omega)).trans ((up2_row (by omega)).trans ((fun a p1 p2 => (up2_row (by omega)).trans ((up2_row (by omega)).trans (up2_row (by omega)))) a p1 p2)))))) (fun a p => (g a p).trans (up2_row p))) (fun J Q h1 h3 f g => K2 J Q (e9.trans h1) h3 (fun a p1 p2 => (f a p1 p2).trans ((up2_row (by omega)).trans ((up2_row (by omega)).trans ((up2_row (by omega)).trans ((up2_row (by omega)).trans ((fun a p1 p2 => (up2_row (by omega)).trans ((up2_row (by omega)).trans (up2_row (by omega)))) a p1 p2)))))) (fun a p => (g a p).trans (up2_row p))) 781 0 (by omega) _ _ [] [((V 2, V 8 1), [])] (V 2) (V 8 1) (V 8 2) rfl (show 1 + (780 + 0) ≤ 781 from by decide) (fun x hx => ?_) rfl ha ((congrFun ((up2_row (by omega)).trans ((up2_row (by omega)).trans ((up2_row (by omega)).trans (up2_row (by omega))))) 3).trans up2_s) (h2.keepHi hu htr (fun a p1 p2 p3 p4 => (up2_row p3).trans ((up2_row p4).trans ((up2_row p1).trans (up2_row p2)))) (fun rg q k p1 p2 => (hrg rg q k p1 p2).2)) (fun _ _ _ => rfl) (fun _ _ => rfl)
         rw [List.mem_singleton.mp hx]
         exact ⟨⟨vta, fun i hi => (vb i hi).2.2.1⟩, by show 0 ≤ 4; omega, fun c hc => by cases hc⟩)
      | (have e9 : shC V o b = none := (if_neg (seat_f se)).trans (if_neg (kok_f kk))
         refine l_srch hv hB hH htr hb (fun rg q k p1 p2 => (hrg rg q k p1 p2).2) (q0 := []) (fun J Q wk h1 h3 h4 h5 f g => ?_) (fun J Q h1 h3 f g => K2 J Q e9 h3 (fun a p1 p2 => (f a p1 p2).trans ((fun a p1 p2 => (up2_row (by omega)).trans ((up2_row (by omega)).trans (up2_row (by omega)))) a p1 p2)) g) 781 0 (by omega) _ _ [] [] (V 2) (V 8 1) (V 8 2) rfl (by decide) (fun x (hx : x ∈ ([] : List xE)) => by cases hx) rfl hq up2_s h2 (fun _ _ _ => rfl) (fun _ _ => rfl)
         rw [bfs_nil] at h1
         cases h1)
      | exact absurd (show false = true from ik) (by decide)
    · skip
      refine x_iconst (pc := 45) (v := 0) dX1_search_45 (by decide) ?_
      refine x_istore (pc := 46) (lv' := [(0, .ref hu), (1, .ref tr), (2, .int (nI b)), (3, .int (nI (V 8 2))), (4, .int 0)]) dX1_search_46 (by decide) rfl ?_
      first
      | (have e9 : shC V o b = some [] := if_pos (seat_t se)
         exact l_srchF hH (m := 1) (by decide) (nn := 0) (by decide) ((congrFun ((up2_row (by omega)).trans ((up2_row (by omega)).trans ((up2_row (by omega)).trans (up2_row (by omega))))) 3).trans up2_s) ((congrFun ((up2_row (by omega)).trans (up2_row (by omega))) 1).trans up2_s) (K1 _ _ [] e9 (by decide) ((congrFun ((up2_row (by omega)).trans ((up2_row (by omega)).trans ((up2_row (by omega)).trans (up2_row (by omega))))) 3).trans up2_s) (fun z => absurd z (by decide)) (fun a p1 p2 => (up2_row (by omega)).trans ((up2_row (by omega)).trans ((up2_row (by omega)).trans ((up2_row (by omega)).trans ((fun a p1 p2 => (up2_row (by omega)).trans ((up2_row (by omega)).trans (up2_row (by omega)))) a p1 p2))))) (fun a p => up2_row p)) 782 0 (by omega))
      | (have e9 : shC V o b = some [] := if_pos (seat_t se)
         exact l_srchF hH (m := 0) (by decide) (nn := 0) (by decide) up2_s hq.1 (K1 _ _ [] e9 (by decide) up2_s (fun z => absurd z (by decide)) (fun a p1 p2 => (up2_row (by omega)).trans ((up2_row (by omega)).trans (up2_row (by omega)))) (fun _ _ => rfl)) 782 0 (by omega))
      | (have e9 : shC V o b = bfs V o b 781 [((V 2, V 8 1), [])] := (if_neg (seat_f se)).trans (if_pos (kok_t kk))
         have ha := hq.add (s := (V 2, V 8 1)) (w := []) (x := 0) rfl
         refine l_srch hv hB hH htr hb (fun rg q k p1 p2 => (hrg rg q k p1 p2).2) (q0 := [((V 2, V 8 1), [])]) (fun J Q wk h1 h3 h4 h5 f g => K1 J Q wk (e9.trans h1) h3 h4 (fun _ => h5) (fun a p1 p2 => (f a p1 p2).trans ((up2_row (by omega)).trans ((up2_row (by omega)).trans ((up2_row (by omega)).trans ((up2_row (by omega)).trans ((fun a p1 p2 => (up2_row (by omega)).trans ((up2_row (by omega)).trans (up2_row (by omega)))) a p1 p2)))))) (fun a p => (g a p).trans (up2_row p))) (fun J Q h1 h3 f g => K2 J Q (e9.trans h1) h3 (fun a p1 p2 => (f a p1 p2).trans ((up2_row (by omega)).trans ((up2_row (by omega)).trans ((up2_row (by omega)).trans ((up2_row (by omega)).trans ((fun a p1 p2 => (up2_row (by omega)).trans ((up2_row (by omega)).trans (up2_row (by omega)))) a p1 p2)))))) (fun a p => (g a p).trans (up2_row p))) 781 0 (by omega) _ _ [] [((V 2, V 8 1), [])] (V 2) (V 8 1) (V 8 2) rfl (show 1 + (780 + 0) ≤ 781 from by decide) (fun x hx => ?_) rfl ha ((congrFun ((up2_row (by omega)).trans ((up2_row (by omega)).trans ((up2_row (by omega)).trans (up2_row (by omega))))) 3).trans up2_s) (h2.keepHi hu htr (fun a p1 p2 p3 p4 => (up2_row p3).trans ((up2_row p4).trans ((up2_row p1).trans (up2_row p2)))) (fun rg q k p1 p2 => (hrg rg q k p1 p2).2)) (fun _ _ _ => rfl) (fun _ _ => rfl)
         rw [List.mem_singleton.mp hx]
         exact ⟨⟨vta, fun i hi => (vb i hi).2.2.1⟩, by show 0 ≤ 4; omega, fun c hc => by cases hc⟩)
      | (have e9 : shC V o b = none := (if_neg (seat_f se)).trans (if_neg (kok_f kk))
         refine l_srch hv hB hH htr hb (fun rg q k p1 p2 => (hrg rg q k p1 p2).2) (q0 := []) (fun J Q wk h1 h3 h4 h5 f g => ?_) (fun J Q h1 h3 f g => K2 J Q e9 h3 (fun a p1 p2 => (f a p1 p2).trans ((fun a p1 p2 => (up2_row (by omega)).trans ((up2_row (by omega)).trans (up2_row (by omega)))) a p1 p2)) g) 781 0 (by omega) _ _ [] [] (V 2) (V 8 1) (V 8 2) rfl (by decide) (fun x (hx : x ∈ ([] : List xE)) => by cases hx) rfl hq up2_s h2 (fun _ _ _ => rfl) (fun _ _ => rfl)
         rw [bfs_nil] at h1
         cases h1)
      | exact absurd (show false = true from ik) (by decide)
  · skip
    refine x_if_eq_t (pc := 25) (tgt := 32) dX1_search_25 (by decide) (by decide) ?_
    refine x_bipush (pc := 32) (v := -5) dX1_search_32 (by decide) ?_
    refine x_put (pc := 34) dX1_search_34 kf_RX1_27 hH.1 rfl (Or.inl kb_1_3) ?_
    have h2 : SC sh R (up2 (up2 (up2 I (hu + 2) 1 0) (hu + 4) 1 0) hu 3 (-5)) tr (V 8 0) (V 0) (V 1) (V 2) (V 3) (V 4) (V 8 1) (V 8 2) 0 (lnO o) := h.keepHu hu htr (fun a p0 p1 p2 p3 p4 => (up2_row p0).trans ((up2_row p3).trans (up2_row p1))) hrg
    have hq : HQ (up2 (up2 (up2 I (hu + 2) 1 0) (hu + 4) 1 0) hu 3 (-5)) L hu (V 8 0) [] := HQ.nil ((congrFun (up2_row (by omega)) 1).trans ((congrFun (up2_row (by omega)) 1).trans up2_s)) ((congrFun (up2_row (by omega)) 1).trans up2_s)
    refine x_aload_n (pc := 37) dX1_search_37 rfl rfl ?_
    refine x_aload_n (pc := 38) dX1_search_38 rfl rfl ?_
    refine x_iload_n (pc := 39) dX1_search_39 rfl rfl ?_
    refine x_iconst (pc := 40) (v := 0) dX1_search_40 (by decide) ?_
    refine x_iconst (pc := 41) (v := 0) dX1_search_41 (by decide) ?_
    refine x_callV (pc := 42) (As := [.ref _, .int _, .int _, .int _]) dX1_search_42 km_X1_keep kv_X1_keep kl_RX1_46 hH.1 rfl rfl (by decide) ⟨Nat.le_refl _, Nat.le_refl _⟩ rfl (Nat.le_of_ble_eq_true rfl) (Nat.le_of_ble_eq_true rfl) (c_keepB hH h2 hb hq (by decide) (fun x hx => by cases hx) (by decide) (by omega) (fun _ => by decide) (fun kk ik => ⟨rfl, rfl, ?_⟩) (fun kk => ⟨rfl, rfl, ?_⟩) (fun kk ik => ⟨rfl, rfl, ?_⟩))
    · skip
      refine x_iconst (pc := 45) (v := 0) dX1_search_45 (by decide) ?_
      refine x_istore (pc := 46) (lv' := [(0, .ref hu), (1, .ref tr), (2, .int (nI b)), (3, .int (nI (V 8 2))), (4, .int 0)]) dX1_search_46 (by decide) rfl ?_
      first
      | (have e9 : shC V o b = some [] := if_pos (seat_t se)
         exact l_srchF hH (m := 1) (by decide) (nn := 0) (by decide) ((congrFun ((up2_row (by omega)).trans ((up2_row (by omega)).trans ((up2_row (by omega)).trans (up2_row (by omega))))) 3).trans up2_s) ((congrFun ((up2_row (by omega)).trans (up2_row (by omega))) 1).trans up2_s) (K1 _ _ [] e9 (by decide) ((congrFun ((up2_row (by omega)).trans ((up2_row (by omega)).trans ((up2_row (by omega)).trans (up2_row (by omega))))) 3).trans up2_s) (fun z => absurd z (by decide)) (fun a p1 p2 => (up2_row (by omega)).trans ((up2_row (by omega)).trans ((up2_row (by omega)).trans ((up2_row (by omega)).trans ((fun a p1 p2 => (up2_row (by omega)).trans ((up2_row (by omega)).trans (up2_row (by omega)))) a p1 p2))))) (fun a p => up2_row p)) 782 0 (by omega))
      | (have e9 : shC V o b = some [] := if_pos (seat_t se)
         exact l_srchF hH (m := 0) (by decide) (nn := 0) (by decide) up2_s hq.1 (K1 _ _ [] e9 (by decide) up2_s (fun z => absurd z (by decide)) (fun a p1 p2 => (up2_row (by omega)).trans ((up2_row (by omega)).trans (up2_row (by omega)))) (fun _ _ => rfl)) 782 0 (by omega))
      | (have e9 : shC V o b = bfs V o b 781 [((V 2, V 8 1), [])] := (if_neg (seat_f se)).trans (if_pos (kok_t kk))
         have ha := hq.add (s := (V 2, V 8 1)) (w := []) (x := 0) rfl
         refine l_srch hv hB hH htr hb (fun rg q k p1 p2 => (hrg rg q k p1 p2).2) (q0 := [((V 2, V 8 1), [])]) (fun J Q wk h1 h3 h4 h5 f g => K1 J Q wk (e9.trans h1) h3 h4 (fun _ => h5) (fun a p1 p2 => (f a p1 p2).trans ((up2_row (by omega)).trans ((up2_row (by omega)).trans ((up2_row (by omega)).trans ((up2_row (by omega)).trans ((fun a p1 p2 => (up2_row (by omega)).trans ((up2_row (by omega)).trans (up2_row (by omega)))) a p1 p2)))))) (fun a p => (g a p).trans (up2_row p))) (fun J Q h1 h3 f g => K2 J Q (e9.trans h1) h3 (fun a p1 p2 => (f a p1 p2).trans ((up2_row (by omega)).trans ((up2_row (by omega)).trans ((up2_row (by omega)).trans ((up2_row (by omega)).trans ((fun a p1 p2 => (up2_row (by omega)).trans ((up2_row (by omega)).trans (up2_row (by omega)))) a p1 p2)))))) (fun a p => (g a p).trans (up2_row p))) 781 0 (by omega) _ _ [] [((V 2, V 8 1), [])] (V 2) (V 8 1) (V 8 2) rfl (show 1 + (780 + 0) ≤ 781 from by decide) (fun x hx => ?_) rfl ha ((congrFun ((up2_row (by omega)).trans ((up2_row (by omega)).trans ((up2_row (by omega)).trans (up2_row (by omega))))) 3).trans up2_s) (h2.keepHi hu htr (fun a p1 p2 p3 p4 => (up2_row p3).trans ((up2_row p4).trans ((up2_row p1).trans (up2_row p2)))) (fun rg q k p1 p2 => (hrg rg q k p1 p2).2)) (fun _ _ _ => rfl) (fun _ _ => rfl)
         rw [List.mem_singleton.mp hx]
         exact ⟨⟨vta, fun i hi => (vb i hi).2.2.1⟩, by show 0 ≤ 4; omega, fun c hc => by cases hc⟩)
      | (have e9 : shC V o b = none := (if_neg (seat_f se)).trans (if_neg (kok_f kk))
         refine l_srch hv hB hH htr hb (fun rg q k p1 p2 => (hrg rg q k p1 p2).2) (q0 := []) (fun J Q wk h1 h3 h4 h5 f g => ?_) (fun J Q h1 h3 f g => K2 J Q e9 h3 (fun a p1 p2 => (f a p1 p2).trans ((fun a p1 p2 => (up2_row (by omega)).trans ((up2_row (by omega)).trans (up2_row (by omega)))) a p1 p2)) g) 781 0 (by omega) _ _ [] [] (V 2) (V 8 1) (V 8 2) rfl (by decide) (fun x (hx : x ∈ ([] : List xE)) => by cases hx) rfl hq up2_s h2 (fun _ _ _ => rfl) (fun _ _ => rfl)
         rw [bfs_nil] at h1
         cases h1)
      | exact absurd (show false = true from ik) (by decide)
    · skip
      refine x_iconst (pc := 45) (v := 0) dX1_search_45 (by decide) ?_
      refine x_istore (pc := 46) (lv' := [(0, .ref hu), (1, .ref tr), (2, .int (nI b)), (3, .int (nI (V 8 2))), (4, .int 0)]) dX1_search_46 (by decide) rfl ?_
      first
      | (have e9 : shC V o b = some [] := if_pos (seat_t se)
         exact l_srchF hH (m := 1) (by decide) (nn := 0) (by decide) ((congrFun ((up2_row (by omega)).trans ((up2_row (by omega)).trans ((up2_row (by omega)).trans (up2_row (by omega))))) 3).trans up2_s) ((congrFun ((up2_row (by omega)).trans (up2_row (by omega))) 1).trans up2_s) (K1 _ _ [] e9 (by decide) ((congrFun ((up2_row (by omega)).trans ((up2_row (by omega)).trans ((up2_row (by omega)).trans (up2_row (by omega))))) 3).trans up2_s) (fun z => absurd z (by decide)) (fun a p1 p2 => (up2_row (by omega)).trans ((up2_row (by omega)).trans ((up2_row (by omega)).trans ((up2_row (by omega)).trans ((fun a p1 p2 => (up2_row (by omega)).trans ((up2_row (by omega)).trans (up2_row (by omega)))) a p1 p2))))) (fun a p => up2_row p)) 782 0 (by omega))
      | (have e9 : shC V o b = some [] := if_pos (seat_t se)
         exact l_srchF hH (m := 0) (by decide) (nn := 0) (by decide) up2_s hq.1 (K1 _ _ [] e9 (by decide) up2_s (fun z => absurd z (by decide)) (fun a p1 p2 => (up2_row (by omega)).trans ((up2_row (by omega)).trans (up2_row (by omega)))) (fun _ _ => rfl)) 782 0 (by omega))
      | (have e9 : shC V o b = bfs V o b 781 [((V 2, V 8 1), [])] := (if_neg (seat_f se)).trans (if_pos (kok_t kk))
         have ha := hq.add (s := (V 2, V 8 1)) (w := []) (x := 0) rfl
         refine l_srch hv hB hH htr hb (fun rg q k p1 p2 => (hrg rg q k p1 p2).2) (q0 := [((V 2, V 8 1), [])]) (fun J Q wk h1 h3 h4 h5 f g => K1 J Q wk (e9.trans h1) h3 h4 (fun _ => h5) (fun a p1 p2 => (f a p1 p2).trans ((up2_row (by omega)).trans ((up2_row (by omega)).trans ((up2_row (by omega)).trans ((up2_row (by omega)).trans ((fun a p1 p2 => (up2_row (by omega)).trans ((up2_row (by omega)).trans (up2_row (by omega)))) a p1 p2)))))) (fun a p => (g a p).trans (up2_row p))) (fun J Q h1 h3 f g => K2 J Q (e9.trans h1) h3 (fun a p1 p2 => (f a p1 p2).trans ((up2_row (by omega)).trans ((up2_row (by omega)).trans ((up2_row (by omega)).trans ((up2_row (by omega)).trans ((fun a p1 p2 => (up2_row (by omega)).trans ((up2_row (by omega)).trans (up2_row (by omega)))) a p1 p2)))))) (fun a p => (g a p).trans (up2_row p))) 781 0 (by omega) _ _ [] [((V 2, V 8 1), [])] (V 2) (V 8 1) (V 8 2) rfl (show 1 + (780 + 0) ≤ 781 from by decide) (fun x hx => ?_) rfl ha ((congrFun ((up2_row (by omega)).trans ((up2_row (by omega)).trans ((up2_row (by omega)).trans (up2_row (by omega))))) 3).trans up2_s) (h2.keepHi hu htr (fun a p1 p2 p3 p4 => (up2_row p3).trans ((up2_row p4).trans ((up2_row p1).trans (up2_row p2)))) (fun rg q k p1 p2 => (hrg rg q k p1 p2).2)) (fun _ _ _ => rfl) (fun _ _ => rfl)
         rw [List.mem_singleton.mp hx]
         exact ⟨⟨vta, fun i hi => (vb i hi).2.2.1⟩, by show 0 ≤ 4; omega, fun c hc => by cases hc⟩)
      | (have e9 : shC V o b = none := (if_neg (seat_f se)).trans (if_neg (kok_f kk))
         refine l_srch hv hB hH htr hb (fun rg q k p1 p2 => (hrg rg q k p1 p2).2) (q0 := []) (fun J Q wk h1 h3 h4 h5 f g => ?_) (fun J Q h1 h3 f g => K2 J Q e9 h3 (fun a p1 p2 => (f a p1 p2).trans ((fun a p1 p2 => (up2_row (by omega)).trans ((up2_row (by omega)).trans (up2_row (by omega)))) a p1 p2)) g) 781 0 (by omega) _ _ [] [] (V 2) (V 8 1) (V 8 2) rfl (by decide) (fun x (hx : x ∈ ([] : List xE)) => by cases hx) rfl hq up2_s h2 (fun _ _ _ => rfl) (fun _ _ => rfl)
         rw [bfs_nil] at h1
         cases h1)
      | exact absurd (show false = true from ik) (by decide)
    · skip
      refine x_iconst (pc := 45) (v := 0) dX1_search_45 (by decide) ?_
      refine x_istore (pc := 46) (lv' := [(0, .ref hu), (1, .ref tr), (2, .int (nI b)), (3, .int (nI (V 8 2))), (4, .int 0)]) dX1_search_46 (by decide) rfl ?_
      first
      | (have e9 : shC V o b = some [] := if_pos (seat_t se)
         exact l_srchF hH (m := 1) (by decide) (nn := 0) (by decide) ((congrFun ((up2_row (by omega)).trans ((up2_row (by omega)).trans ((up2_row (by omega)).trans (up2_row (by omega))))) 3).trans up2_s) ((congrFun ((up2_row (by omega)).trans (up2_row (by omega))) 1).trans up2_s) (K1 _ _ [] e9 (by decide) ((congrFun ((up2_row (by omega)).trans ((up2_row (by omega)).trans ((up2_row (by omega)).trans (up2_row (by omega))))) 3).trans up2_s) (fun z => absurd z (by decide)) (fun a p1 p2 => (up2_row (by omega)).trans ((up2_row (by omega)).trans ((up2_row (by omega)).trans ((up2_row (by omega)).trans ((fun a p1 p2 => (up2_row (by omega)).trans ((up2_row (by omega)).trans (up2_row (by omega)))) a p1 p2))))) (fun a p => up2_row p)) 782 0 (by omega))
      | (have e9 : shC V o b = some [] := if_pos (seat_t se)
         exact l_srchF hH (m := 0) (by decide) (nn := 0) (by decide) up2_s hq.1 (K1 _ _ [] e9 (by decide) up2_s (fun z => absurd z (by decide)) (fun a p1 p2 => (up2_row (by omega)).trans ((up2_row (by omega)).trans (up2_row (by omega)))) (fun _ _ => rfl)) 782 0 (by omega))
      | (have e9 : shC V o b = bfs V o b 781 [((V 2, V 8 1), [])] := (if_neg (seat_f se)).trans (if_pos (kok_t kk))
         have ha := hq.add (s := (V 2, V 8 1)) (w := []) (x := 0) rfl
         refine l_srch hv hB hH htr hb (fun rg q k p1 p2 => (hrg rg q k p1 p2).2) (q0 := [((V 2, V 8 1), [])]) (fun J Q wk h1 h3 h4 h5 f g => K1 J Q wk (e9.trans h1) h3 h4 (fun _ => h5) (fun a p1 p2 => (f a p1 p2).trans ((up2_row (by omega)).trans ((up2_row (by omega)).trans ((up2_row (by omega)).trans ((up2_row (by omega)).trans ((fun a p1 p2 => (up2_row (by omega)).trans ((up2_row (by omega)).trans (up2_row (by omega)))) a p1 p2)))))) (fun a p => (g a p).trans (up2_row p))) (fun J Q h1 h3 f g => K2 J Q (e9.trans h1) h3 (fun a p1 p2 => (f a p1 p2).trans ((up2_row (by omega)).trans ((up2_row (by omega)).trans ((up2_row (by omega)).trans ((up2_row (by omega)).trans ((fun a p1 p2 => (up2_row (by omega)).trans ((up2_row (by omega)).trans (up2_row (by omega)))) a p1 p2)))))) (fun a p => (g a p).trans (up2_row p))) 781 0 (by omega) _ _ [] [((V 2, V 8 1), [])] (V 2) (V 8 1) (V 8 2) rfl (show 1 + (780 + 0) ≤ 781 from by decide) (fun x hx => ?_) rfl ha ((congrFun ((up2_row (by omega)).trans ((up2_row (by omega)).trans ((up2_row (by omega)).trans (up2_row (by omega))))) 3).trans up2_s) (h2.keepHi hu htr (fun a p1 p2 p3 p4 => (up2_row p3).trans ((up2_row p4).trans ((up2_row p1).trans (up2_row p2)))) (fun rg q k p1 p2 => (hrg rg q k p1 p2).2)) (fun _ _ _ => rfl) (fun _ _ => rfl)
         rw [List.mem_singleton.mp hx]
         exact ⟨⟨vta, fun i hi => (vb i hi).2.2.1⟩, by show 0 ≤ 4; omega, fun c hc => by cases hc⟩)
      | (have e9 : shC V o b = none := (if_neg (seat_f se)).trans (if_neg (kok_f kk))
         refine l_srch hv hB hH htr hb (fun rg q k p1 p2 => (hrg rg q k p1 p2).2) (q0 := []) (fun J Q wk h1 h3 h4 h5 f g => ?_) (fun J Q h1 h3 f g => K2 J Q e9 h3 (fun a p1 p2 => (f a p1 p2).trans ((fun a p1 p2 => (up2_row (by omega)).trans ((up2_row (by omega)).trans (up2_row (by omega)))) a p1 p2)) g) 781 0 (by omega) _ _ [] [] (V 2) (V 8 1) (V 8 2) rfl (by decide) (fun x (hx : x ∈ ([] : List xE)) => by cases hx) rfl hq up2_s h2 (fun _ _ _ => rfl) (fun _ _ => rfl)
         rw [bfs_nil] at h1
         cases h1)
      | exact absurd (show false = true from ik) (by decide)

theorem ush_6 {m j : Nat} (hm : m < 2 ^ 32) (hj : j < 5) : xushr (nI m) (nI (6 * j)) = nI (m / 64 ^ j) := by
  unfold xushr
  rcases j with _|_|_|_|_|j
  · exact pk_ushrN hm (nI (6 * 0)) 0 (by decide)
  · exact pk_ushrN hm (nI (6 * 1)) 6 (by decide)
  · exact pk_ushrN hm (nI (6 * 2)) 12 (by decide)
  · exact pk_ushrN hm (nI (6 * 3)) 18 (by decide)
  · exact pk_ushrN hm (nI (6 * 4)) 24 (by decide)
  · omega
theorem cd_dig {m j d : Nat} (hm : m < 2 ^ 32) (hj : j < 5) (h : m / 64 ^ j % 64 = d) : xushr (nI m) (nI (6 * j)) &&& 63 = nI d := by
  rw [ush_6 hm hj, pk_andN (Nat.lt_of_le_of_lt (Nat.div_le_self _ _) hm) 6 (by decide)]
  exact congrArg nI h
theorem neg1_lit {y : Int32} (h1 : ¬ y < -1) (h2 : ¬ 4 < y) : y = -1 ∨ ∃ k, k < 5 ∧ y = nI k := by
  by_cases q : y < 0
  · refine Or.inl (Int32.toInt_inj.mp ?_)
    have a1 := Int32.lt_iff_toInt_lt.mp q
    have a2 := Int32.le_iff_toInt_le.mp (Int32.not_lt.mp h1)
    have e1 : (-1 : Int32).toInt = -1 := rfl
    have e0 : (0 : Int32).toInt = 0 := rfl
    omega
  · exact Or.inr (s5_k q h2)
theorem shR_cells {V : xV} {o : Option xAR} {b : Nat} {w : List Nat} (h : shR V o b = some w) : ∀ c ∈ w, c < 64 := by
  have key : ∀ (r d : Nat) (s : xS) (w : List Nat), dfs V o b r d s = some w → ∀ c ∈ w, c < 64 := by
    intro r
    induction r with
    | zero =>
      intro d s w h
      have h : (if s.1 b = V 3 b then some [] else none) = some w := h
      split at h
      · have := Option.some.inj h
        rw [← this]
        intro c hc
        cases hc
      · cases h
    | succ r ih =>
      intro d s w h
      have kk : ∀ (l : List Nat), (∀ c ∈ l, c < 64) → fS (fun c => ob (sgo V o d s c) (fun s' => ob (dfs V o b r (d + 1) s') (fun w => some (c :: w)))) l = some w → ∀ c ∈ w, c < 64 := by
        intro l
        induction l with
        | nil => intro _ h; cases h
        | cons c0 l il =>
          intro hl h
          cases e : (ob (sgo V o d s c0) (fun s' => ob (dfs V o b r (d + 1) s') (fun w => some (c0 :: w)))) with
          | none =>
            rw [fS_n (f := fun c => ob (sgo V o d s c) (fun s' => ob (dfs V o b r (d + 1) s') (fun w => some (c :: w)))) e] at h
            exact il (fun c hc => hl c (List.mem_cons_of_mem _ hc)) h
          | some x =>
            rw [fS_s (f := fun c => ob (sgo V o d s c) (fun s' => ob (dfs V o b r (d + 1) s') (fun w => some (c :: w)))) e] at h
            have hx := Option.some.inj h
            subst hx
            cases e2 : sgo V o d s c0 with
            | none => rw [e2] at e; cases e
            | some s' =>
              rw [e2] at e
              have e : (ob (dfs V o b r (d + 1) s') (fun w => some (c0 :: w))) = some x := e
              cases e3 : dfs V o b r (d + 1) s' with
              | none => rw [e3] at e; cases e
              | some w' =>
                rw [e3] at e
                have := Option.some.inj e
                rw [← this]
                intro c hc
                rcases List.mem_cons.mp hc with z | z
                · rw [z]; exact hl c0 List.mem_cons_self
                · exact ih (d + 1) s' w' e3 c z
      exact kk (List.range 36) (fun c hc => by have := List.mem_range.mp hc; omega) h
  have kf : ∀ (k n : Nat), fN (fun n => dfs V o b n 0 (V 2, V 8 1)) k n = some w → ∀ c ∈ w, c < 64 := by
    intro k
    induction k with
    | zero => intro n h; cases h
    | succ k ih =>
      intro n h
      have h : (match dfs V o b n 0 (V 2, V 8 1) with | some w => some w | none => fN (fun n => dfs V o b n 0 (V 2, V 8 1)) k (n + 1)) = some w := h
      cases e : dfs V o b n 0 (V 2, V 8 1) with
      | some x =>
        rw [e] at h
        have := Option.some.inj h
        rw [← this]
        exact key n 0 _ x e
      | none =>
        rw [e] at h
        exact ih (n + 1) h
  exact kf 6 0 h

set_option maxHeartbeats 4000000 in
set_option maxRecDepth 100000 in
theorem c_cellOf {T : xT} {n : Nat} {sh : Nat → Nat × Nat} {I : xI} {R : xR} {L : xL} {P : xPost} {hu i : Nat} {wk : List Nat} (hH : xHunt sh R hu) (hi5 : i < 5) (h5 : wk.length ≤ 5) (hc : ∀ c ∈ wk, c < 64) (h3 : I hu 3 = nI wk.length) (h4 : 0 < wk.length → I hu 4 = nI (cdN wk)) (K : P (n, sh, 0, 0) I R L (some (.int (if i < wk.length then nI (wk.getD i 0) else -5))))  : XM T zX1_cellOf 0 [.ref hu, .int (nI i)] n sh I R L P := by
  refine x_iload_n (pc := 0) dX1_cellOf_0 rfl rfl ?_
  refine x_ifn_lt (pc := 1) (a := i) dX1_cellOf_1 ⟨12, by decide⟩ (by omega) ?_
  refine x_iload_n (pc := 4) dX1_cellOf_4 rfl rfl ?_
  refine x_aload_n (pc := 5) dX1_cellOf_5 rfl rfl ?_
  refine x_get (pc := 6) dX1_cellOf_6 kf_RX1_27 hH.1 rfl ?_
  rw [h3]
  refine x_icmpn_lt (pc := 9) (tgt := 15) (a := i) (b := wk.length) dX1_cellOf_9 (by decide) (by omega) (by omega) (fun c9 => ?_) (fun c9 => ?_)
  · skip
    refine x_aload_n (pc := 15) dX1_cellOf_15 rfl rfl ?_
    refine x_get (pc := 16) dX1_cellOf_16 kf_RX1_31 hH.1 rfl ?_
    have hc9 := cdN_at h5 hc c9
    rw [h4 (by omega)]
    refine x_bipush (pc := 19) (v := 6) dX1_cellOf_19 (by decide) ?_
    refine x_aload_n (pc := 21) dX1_cellOf_21 rfl rfl ?_
    refine x_get (pc := 22) dX1_cellOf_22 kf_RX1_27 hH.1 rfl ?_
    rw [h3]
    refine x_iconst (pc := 25) (v := 1) dX1_cellOf_25 (by decide) ?_
    refine x_isubn (pc := 26) (a := wk.length) (b := 1) dX1_cellOf_26 (by omega) ?_
    refine x_iload_n (pc := 27) dX1_cellOf_27 rfl rfl ?_
    refine x_isubn (pc := 28) (a := (wk.length - 1)) (b := i) dX1_cellOf_28 (by omega) ?_
    refine x_imuln (pc := 29) (a := 6) (b := ((wk.length - 1) - i)) dX1_cellOf_29 ?_
    refine x_iushr (pc := 30) dX1_cellOf_30 ?_
    refine x_bipush (pc := 31) (v := 63) dX1_cellOf_31 (by decide) ?_
    refine x_iand (pc := 33) dX1_cellOf_33 ?_
    refine x_ireturn (pc := 34) dX1_cellOf_34 ⟨_, rfl, rfl⟩ ⟨Nat.le_refl _, Nat.le_refl _⟩ ?_
    rw [if_pos c9] at K
    rw [show xushr (nI (cdN wk)) (nI (6 * (wk.length - 1 - i))) &&& 63 = nI (wk.getD i 0) from cd_dig (by omega) (by omega) hc9.1]
    exact K
  · skip
    refine x_bipush (pc := 12) (v := -5) dX1_cellOf_12 (by decide) ?_
    refine x_ireturn (pc := 14) dX1_cellOf_14 ⟨_, rfl, rfl⟩ ⟨Nat.le_refl _, Nat.le_refl _⟩ ?_
    rw [if_neg (by omega)] at K
    exact K

set_option maxHeartbeats 4000000 in
set_option maxRecDepth 100000 in
theorem c_cellOf0 {T : xT} {n : Nat} {sh : Nat → Nat × Nat} {I : xI} {R : xR} {L : xL} {P : xPost} {hu i : Nat} (hH : xHunt sh R hu) (hi5 : i < 5) (h3 : I hu 3 = -5) (K : P (n, sh, 0, 0) I R L (some (.int (-5))))  : XM T zX1_cellOf 0 [.ref hu, .int (nI i)] n sh I R L P := by
  refine x_iload_n (pc := 0) dX1_cellOf_0 rfl rfl ?_
  refine x_ifn_lt (pc := 1) (a := i) dX1_cellOf_1 ⟨12, by decide⟩ (by omega) ?_
  refine x_iload_n (pc := 4) dX1_cellOf_4 rfl rfl ?_
  refine x_aload_n (pc := 5) dX1_cellOf_5 rfl rfl ?_
  refine x_get (pc := 6) dX1_cellOf_6 kf_RX1_27 hH.1 rfl ?_
  rw [h3]
  refine x_icmp_lt_f (pc := 9) (tgt := 15) dX1_cellOf_9 (by decide) (fun q => absurd (Int32.lt_iff_toInt_lt.mp q) (by rw [nI_toInt (by omega)]; have : (-5 : Int32).toInt = -5 := rfl; omega)) ?_
  refine x_bipush (pc := 12) (v := -5) dX1_cellOf_12 (by decide) ?_
  refine x_ireturn (pc := 14) dX1_cellOf_14 ⟨_, rfl, rfl⟩ ⟨Nat.le_refl _, Nat.le_refl _⟩ ?_
  exact K

set_option maxHeartbeats 4000000 in
set_option maxRecDepth 100000 in
theorem l_sh11 {T : xT} {n : Nat} {sh : Nat → Nat × Nat} {I : xI} {R : xR} {L : xL} {P : xPost} {lr nw im tr rd hu se ac M : Nat} (hG : GEO sh R lr nw im tr rd hu se ac M) {k t : Nat} (ht : t < 5) {wk : List Nat} (hw5 : wk.length ≤ 5) (hwc : ∀ c ∈ wk, c < 64) (h3 : I hu 3 = nI wk.length) (h4 : 0 < wk.length → I hu 4 = nI (cdN wk)) (K : P (n, sh, 0, 0) I R L (some (.int (nI wk.length))))  :  X T zX9_shortest 7 0 0 P 45 [(0, .ref lr), (1, .int (nI k)), (2, .int (-1))] [] (n, sh, 0, 0) (I) R L := by
  have hH := hG.hunt
  refine x_iload_n (pc := 45) dX9_shortest_45 rfl rfl ?_
  refine x_iconst (pc := 46) (v := -1) dX9_shortest_46 (by decide) ?_
  refine x_icmp_ne_f (pc := 47) (tgt := 60) dX9_shortest_47 (by decide) (by decide) ?_
  refine x_aload_n (pc := 50) dX9_shortest_50 rfl rfl ?_
  refine x_getr (pc := 51) dX9_shortest_51 kf_RX9_48 hG.g_x rfl hG.g_f7 ?_
  refine x_get (pc := 54) dX9_shortest_54 kf_RX9_220 hG.g_hu rfl ?_
  rw [h3]
  refine x_goto (pc := 57) (tgt := 68) dX9_shortest_57 (by decide) ?_
  refine x_ireturn (pc := 68) dX9_shortest_68 ⟨_, rfl, rfl⟩ ⟨Nat.le_refl _, Nat.le_refl _⟩ ?_
  exact K

set_option maxHeartbeats 4000000 in
set_option maxRecDepth 100000 in
theorem l_sh10 {T : xT} {n : Nat} {sh : Nat → Nat × Nat} {I : xI} {R : xR} {L : xL} {P : xPost} {lr nw im tr rd hu se ac M : Nat} (hG : GEO sh R lr nw im tr rd hu se ac M) {k t : Nat} (ht : t < 5) {wk : List Nat} (hw5 : wk.length ≤ 5) (hwc : ∀ c ∈ wk, c < 64) (h3 : I hu 3 = nI wk.length) (h4 : 0 < wk.length → I hu 4 = nI (cdN wk)) (K : P (n, sh, 0, 0) I R L (some (.int ((if t < wk.length then nI (wk.getD t 0) else -5)))))  :  X T zX9_shortest 7 0 0 P 45 [(0, .ref lr), (1, .int (nI k)), (2, .int (nI t))] [] (n, sh, 0, 0) (I) R L := by
  have hH := hG.hunt
  refine x_iload_n (pc := 45) dX9_shortest_45 rfl rfl ?_
  refine x_iconst (pc := 46) (v := -1) dX9_shortest_46 (by decide) ?_
  refine x_icmp_ne_t (pc := 47) (tgt := 60) dX9_shortest_47 (by decide) (nI_nem (by omega)) ?_
  refine x_aload_n (pc := 60) dX9_shortest_60 rfl rfl ?_
  refine x_getr (pc := 61) dX9_shortest_61 kf_RX9_48 hG.g_x rfl hG.g_f7 ?_
  refine x_iload_n (pc := 64) dX9_shortest_64 rfl rfl ?_
  refine x_callV (pc := 65) (As := [.int _]) dX9_shortest_65 km_X1_cellOf kv_X1_cellOf kl_RX9_223 hG.g_hu rfl rfl (by decide) ⟨Nat.le_refl _, Nat.le_refl _⟩ rfl (Nat.le_of_ble_eq_true rfl) (Nat.le_of_ble_eq_true rfl) (c_cellOf hH ht hw5 hwc h3 h4 (⟨rfl, rfl, ?_⟩))
  refine x_ireturn (pc := 68) dX9_shortest_68 ⟨_, rfl, rfl⟩ ⟨Nat.le_refl _, Nat.le_refl _⟩ ?_
  exact K

set_option maxHeartbeats 4000000 in
set_option maxRecDepth 100000 in
theorem l_sh01 {T : xT} {n : Nat} {sh : Nat → Nat × Nat} {I : xI} {R : xR} {L : xL} {P : xPost} {lr nw im tr rd hu se ac M : Nat} (hG : GEO sh R lr nw im tr rd hu se ac M) {k t : Nat} (ht : t < 5) (h3 : I hu 3 = -5) (K : P (n, sh, 0, 0) I R L (some (.int ((-5)))))  :  X T zX9_shortest 7 0 0 P 45 [(0, .ref lr), (1, .int (nI k)), (2, .int (-1))] [] (n, sh, 0, 0) (I) R L := by
  have hH := hG.hunt
  refine x_iload_n (pc := 45) dX9_shortest_45 rfl rfl ?_
  refine x_iconst (pc := 46) (v := -1) dX9_shortest_46 (by decide) ?_
  refine x_icmp_ne_f (pc := 47) (tgt := 60) dX9_shortest_47 (by decide) (by decide) ?_
  refine x_aload_n (pc := 50) dX9_shortest_50 rfl rfl ?_
  refine x_getr (pc := 51) dX9_shortest_51 kf_RX9_48 hG.g_x rfl hG.g_f7 ?_
  refine x_get (pc := 54) dX9_shortest_54 kf_RX9_220 hG.g_hu rfl ?_
  rw [h3]
  refine x_goto (pc := 57) (tgt := 68) dX9_shortest_57 (by decide) ?_
  refine x_ireturn (pc := 68) dX9_shortest_68 ⟨_, rfl, rfl⟩ ⟨Nat.le_refl _, Nat.le_refl _⟩ ?_
  exact K

set_option maxHeartbeats 4000000 in
set_option maxRecDepth 100000 in
theorem l_sh00 {T : xT} {n : Nat} {sh : Nat → Nat × Nat} {I : xI} {R : xR} {L : xL} {P : xPost} {lr nw im tr rd hu se ac M : Nat} (hG : GEO sh R lr nw im tr rd hu se ac M) {k t : Nat} (ht : t < 5) (h3 : I hu 3 = -5) (K : P (n, sh, 0, 0) I R L (some (.int ((-5)))))  :  X T zX9_shortest 7 0 0 P 45 [(0, .ref lr), (1, .int (nI k)), (2, .int (nI t))] [] (n, sh, 0, 0) (I) R L := by
  have hH := hG.hunt
  refine x_iload_n (pc := 45) dX9_shortest_45 rfl rfl ?_
  refine x_iconst (pc := 46) (v := -1) dX9_shortest_46 (by decide) ?_
  refine x_icmp_ne_t (pc := 47) (tgt := 60) dX9_shortest_47 (by decide) (nI_nem (by omega)) ?_
  refine x_aload_n (pc := 60) dX9_shortest_60 rfl rfl ?_
  refine x_getr (pc := 61) dX9_shortest_61 kf_RX9_48 hG.g_x rfl hG.g_f7 ?_
  refine x_iload_n (pc := 64) dX9_shortest_64 rfl rfl ?_
  refine x_callV (pc := 65) (As := [.int _]) dX9_shortest_65 km_X1_cellOf kv_X1_cellOf kl_RX9_223 hG.g_hu rfl rfl (by decide) ⟨Nat.le_refl _, Nat.le_refl _⟩ rfl (Nat.le_of_ble_eq_true rfl) (Nat.le_of_ble_eq_true rfl) (c_cellOf0 hH ht h3 (⟨rfl, rfl, ?_⟩))
  refine x_ireturn (pc := 68) dX9_shortest_68 ⟨_, rfl, rfl⟩ ⟨Nat.le_refl _, Nat.le_refl _⟩ ?_
  exact K

set_option maxHeartbeats 4000000 in
set_option maxRecDepth 100000 in
theorem c_shortestIt {T : xT} {n : Nat} {sh : Nat → Nat × Nat} {I : xI} {R : xR} {L : xL} {P : xPost} {lr nw im tr rd hu se ac M : Nat} (hG : GEO sh R lr nw im tr rd hu se ac M) {V : xV} {B rc : Nat} {ars : Nat → xAR} (h : FSC I nw V) (hv : VOK V B) (hB : B < 800000) (hr : cRings I lr rc ars) (hV6 : V 8 6 ≤ rc) (hRn : R nw 11 = rgRef V) {x y : Int32} (K : ∀ (I2 : xI) (R2 : xR) (L2 : xL), huP tr hu I I2 → trR tr R R2 → huL hu L L2 → P (n, sh, 0, 0) I2 R2 L2 (some (.int (spShort V (rgVal ars V) x y))))  : XM T zX9_shortest 7 [.ref lr, .int x, .int y] n sh I R L P := by
  obtain ⟨v6, v12, v10, vb, vf, vw, vm, vta, vte, vod, vrg, vdi⟩ := id hv
  have e1 := hG.g_e_nw
  have e2 := hG.g_e_tr
  have e3 := hG.g_e_x
  have e4 := hG.g_e_hu
  refine x_aload_n (pc := 0) dX9_shortest_0 rfl rfl ?_
  refine x_getr (pc := 1) dX9_shortest_1 kf_RX9_12 hG.g_x rfl hG.g_f0 ?_
  refine x_iload_n (pc := 4) dX9_shortest_4 rfl rfl ?_
  refine x_callV (pc := 5) (As := [.int _]) dX9_shortest_5 km_X6_isBeast kv_X6_isBeast kl_RX9_102 hG.g_nw.1 rfl rfl (by decide) ⟨Nat.le_refl _, Nat.le_refl _⟩ rfl (Nat.le_of_ble_eq_true rfl) (Nat.le_of_ble_eq_true rfl) (c_isBeast hG.g_nw (h.row 2 (by decide)) v6 (fun k hk ek => ⟨rfl, rfl, ?_⟩) (fun h1 => ⟨rfl, rfl, ?_⟩))
  · skip
    have hk : k < V 8 0 := hk
    subst ek
    refine x_if_eq_f (pc := 8) (tgt := 20) dX9_shortest_8 (by decide) (by decide) ?_
    refine x_iload_n (pc := 11) dX9_shortest_11 rfl rfl ?_
    refine x_iconst (pc := 12) (v := -1) dX9_shortest_12 (by decide) ?_
    refine x_iconst (pc := 13) (v := 4) dX9_shortest_13 (by decide) ?_
    refine x_callS (pc := 14) (As := [.int _, .int _, .int _]) dX9_shortest_14 km_X9_isWithin ks_X9_isWithin kl_RX9_81 rfl (by decide) ⟨Nat.le_refl _, Nat.le_refl _⟩ rfl (Nat.le_of_ble_eq_true rfl) (Nat.le_of_ble_eq_true rfl) (c_isWithin (fun p1 p2 => ⟨rfl, rfl, ?_⟩) (fun g1 => ⟨rfl, rfl, ?_⟩))
    · skip
      refine x_if_ne_t (pc := 17) (tgt := 22) dX9_shortest_17 (by decide) (by decide) ?_
      refine x_aload_n (pc := 22) dX9_shortest_22 rfl rfl ?_
      refine x_getr (pc := 23) dX9_shortest_23 kf_RX9_21 hG.g_x rfl hG.g_f2 ?_
      refine x_aload_n (pc := 26) dX9_shortest_26 rfl rfl ?_
      refine x_getr (pc := 27) dX9_shortest_27 kf_RX9_12 hG.g_x rfl hG.g_f0 ?_
      refine x_callV (pc := 30) (As := [.ref _]) dX9_shortest_30 km_X6_copyFrom kv_X6_copyFrom kl_RX9_197 hG.g_tr.1 rfl rfl (by decide) ⟨Nat.le_refl _, Nat.le_refl _⟩ rfl (Nat.le_of_ble_eq_true rfl) (Nat.le_of_ble_eq_true rfl) (c_scCopy hG.g_tr hG.g_nw (by omega) (fun j hj => ⟨(h.1 j hj).1, vsz_le hv hj⟩) (fun I2 k1 k2 k3 k4 k5 k6 => ⟨rfl, rfl, ?_⟩))
      have hsc := h.toTr hG hv hB hr hV6 hRn k1 k2 k3 k4 k5 k6
      have hG : GEO sh (up2 R tr 11 (R nw 11)) lr nw im tr rd hu se ac M := hG.keepR (fun a k hk => trR.up a k (Or.inr hk))
      have hH := hG.hunt
      refine x_aload_n (pc := 33) dX9_shortest_33 rfl rfl ?_
      refine x_getr (pc := 34) dX9_shortest_34 kf_RX9_48 hG.g_x rfl hG.g_f7 ?_
      refine x_aload_n (pc := 37) dX9_shortest_37 rfl rfl ?_
      refine x_getr (pc := 38) dX9_shortest_38 kf_RX9_21 hG.g_x rfl hG.g_f2 ?_
      refine x_iload_n (pc := 41) dX9_shortest_41 rfl rfl ?_
      refine x_callV (pc := 42) (As := [.ref _, .int _]) dX9_shortest_42 km_X1_search kv_X1_search kl_RX9_216 hG.g_hu rfl rfl (by decide) ⟨Nat.le_refl _, Nat.le_refl _⟩ rfl (Nat.le_of_ble_eq_true rfl) (Nat.le_of_ble_eq_true rfl) (c_search hv (by omega) hH (by omega) hk (fun rg q k9 p1 p2 => by rw [up2_s, hRn] at q; unfold rgRef at q; split at q; cases q; have := Option.some.inj q; omega) hsc (fun J Q wk h1 h2 h3 h4 f g => ⟨rfl, rfl, ?_⟩) (fun J Q h1 h3 f g => ⟨rfl, rfl, ?_⟩))
      · skip
        first
        | (have er := (shC_eq ⟨vta, fun i hi => (vb i hi).2.2.1⟩ hk (vb k hk).2.2.2.1).symm.trans h1
           have h9 := K J (up2 R tr 11 (R nw 11)) Q (fun a p1 p2 => (f a p1 p2).trans (k1 a (by omega))) trR.up g
           rcases neg1_lit p1 p2 with ey | ⟨t, ht, ey⟩
           · subst ey
             rw [spSh_b v6 hk (by decide), er] at h9
             exact l_sh11 hG (t := 0) (by decide) h2 (shR_cells er) h3 h4 h9
           · subst ey
             rw [spSh_b v6 hk (fun z => z.elim p1 p2), er] at h9
             have e7 : (if nI t = -1 then nI wk.length else if (nI t).toNatClampNeg < wk.length then nI (wk.getD (nI t).toNatClampNeg 0) else -5) = (if t < wk.length then nI (wk.getD t 0) else -5) := by rw [if_neg (nI_nem (by omega)), nI_clamp (by omega)]
             exact l_sh10 hG ht h2 (shR_cells er) h3 h4 (xvi h9 e7))
        | (have er := (shC_eq ⟨vta, fun i hi => (vb i hi).2.2.1⟩ hk (vb k hk).2.2.2.1).symm.trans h1
           have h9 := K J (up2 R tr 11 (R nw 11)) Q (fun a p1 p2 => (f a p1 p2).trans (k1 a (by omega))) trR.up g
           rcases neg1_lit p1 p2 with ey | ⟨t, ht, ey⟩
           · subst ey
             rw [spSh_b v6 hk (by decide), er] at h9
             exact l_sh01 hG (t := 0) (by decide) h3 h9
           · subst ey
             rw [spSh_b v6 hk (fun z => z.elim p1 p2), er] at h9
             exact l_sh00 hG ht h3 h9)
      · skip
        first
        | (have er := (shC_eq ⟨vta, fun i hi => (vb i hi).2.2.1⟩ hk (vb k hk).2.2.2.1).symm.trans h1
           have h9 := K J (up2 R tr 11 (R nw 11)) Q (fun a p1 p2 => (f a p1 p2).trans (k1 a (by omega))) trR.up g
           rcases neg1_lit p1 p2 with ey | ⟨t, ht, ey⟩
           · subst ey
             rw [spSh_b v6 hk (by decide), er] at h9
             exact l_sh11 hG (t := 0) (by decide) h2 (shR_cells er) h3 h4 h9
           · subst ey
             rw [spSh_b v6 hk (fun z => z.elim p1 p2), er] at h9
             have e7 : (if nI t = -1 then nI wk.length else if (nI t).toNatClampNeg < wk.length then nI (wk.getD (nI t).toNatClampNeg 0) else -5) = (if t < wk.length then nI (wk.getD t 0) else -5) := by rw [if_neg (nI_nem (by omega)), nI_clamp (by omega)]
             exact l_sh10 hG ht h2 (shR_cells er) h3 h4 (xvi h9 e7))
        | (have er := (shC_eq ⟨vta, fun i hi => (vb i hi).2.2.1⟩ hk (vb k hk).2.2.2.1).symm.trans h1
           have h9 := K J (up2 R tr 11 (R nw 11)) Q (fun a p1 p2 => (f a p1 p2).trans (k1 a (by omega))) trR.up g
           rcases neg1_lit p1 p2 with ey | ⟨t, ht, ey⟩
           · subst ey
             rw [spSh_b v6 hk (by decide), er] at h9
             exact l_sh01 hG (t := 0) (by decide) h3 h9
           · subst ey
             rw [spSh_b v6 hk (fun z => z.elim p1 p2), er] at h9
             exact l_sh00 hG ht h3 h9)
    · skip
      refine x_if_ne_f (pc := 17) (tgt := 22) dX9_shortest_17 (by decide) (by decide) ?_
      refine x_iconst (pc := 20) (v := -1) dX9_shortest_20 (by decide) ?_
      refine x_ireturn (pc := 21) dX9_shortest_21 ⟨_, rfl, rfl⟩ ⟨Nat.le_refl _, Nat.le_refl _⟩ ?_
      have e9 : spShort V (rgVal ars V) (nI k) y = -1 := by first | exact spSh_x h1 | exact spSh_y g1
      have h9 := K I R L (fun _ _ _ => rfl) trR.rf (fun _ _ => rfl)
      rw [e9] at h9
      exact h9
  · skip
    refine x_if_eq_t (pc := 8) (tgt := 20) dX9_shortest_8 (by decide) (by decide) ?_
    refine x_iconst (pc := 20) (v := -1) dX9_shortest_20 (by decide) ?_
    refine x_ireturn (pc := 21) dX9_shortest_21 ⟨_, rfl, rfl⟩ ⟨Nat.le_refl _, Nat.le_refl _⟩ ?_
    have e9 : spShort V (rgVal ars V) (x) y = -1 := by first | exact spSh_x h1 | exact spSh_y g1
    have h9 := K I R L (fun _ _ _ => rfl) trR.rf (fun _ _ => rfl)
    rw [e9] at h9
    exact h9

