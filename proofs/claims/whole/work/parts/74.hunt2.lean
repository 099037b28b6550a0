/-! ===== shortest: the search of the class ===== -/
def gq (l : Nat) : Nat := [780, 155, 30, 5].getD l 0
theorem gq_s : ∀ d, d < 4 → gq d = 5 * (1 + gq (d + 1)) := by decide
def pot : List xE → Nat
  | [] => 0
  | e :: l => gq e.2.length + pot l
theorem pot_app : ∀ (a b : List xE), pot (a ++ b) = pot a + pot b
  | [], b => (Nat.zero_add _).symm
  | e :: a, b => by
    show gq e.2.length + pot (a ++ b) = gq e.2.length + pot a + pot b
    rw [pot_app a b, Nat.add_assoc]
theorem pot_depth {d : Nat} : ∀ (q : List xE), (∀ e ∈ q, e.2.length = d) → pot q = q.length * gq d
  | [], _ => (Nat.zero_mul _).symm
  | e :: q, h => by
    show gq e.2.length + pot q = (q.length + 1) * gq d
    rw [pot_depth q (fun x hx => h x (List.mem_cons_of_mem _ hx)), h e List.mem_cons_self, Nat.succ_mul, Nat.add_comm]
theorem kids_room {V : xV} {o : Option xAR} {b m p : Nat} {e : xE} {es nw : List xE} (h : m + (gq e.2.length + p) ≤ 781) (hp : p = pot es) (hn : nw.length ≤ (kids V o b e).length) (hm : ∀ x ∈ nw, x ∈ kids V o b e) : m + nw.length + pot (es ++ nw) ≤ 781 := by
  subst hp
  rw [pot_app]
  by_cases h4 : 4 ≤ e.2.length
  · have e0 : nw = [] := List.eq_nil_of_length_eq_zero (by rw [kids_5 h4] at hn; exact Nat.le_zero.mp hn)
    rw [e0]
    show m + 0 + (pot es + 0) ≤ 781
    omega
  · have h1 := gq_s e.2.length (by omega)
    have h2 := @kids_len V o b e
    rw [pot_depth (d := e.2.length + 1) nw (fun x hx => (kids_mem (hm x hx)).1)]
    have h3 : nw.length * gq (e.2.length + 1) ≤ 5 * gq (e.2.length + 1) := Nat.mul_le_mul_right _ (by omega)
    omega
def EOK (V : xV) (e : xE) : Prop := SOK V e.1 ∧ e.2.length ≤ 4 ∧ ∀ c ∈ e.2, c < 64
theorem kids_ok {V : xV} {o : Option xAR} {b : Nat} {e x : xE} (h : EOK V e) (hx : x ∈ kids V o b e) : EOK V x := by
  have h1 := (kids_mem hx).1
  have h4 : e.2.length < 4 := by
    rcases Nat.lt_or_ge e.2.length 4 with q | q
    · exact q
    · rw [kids_5 q] at hx
      cases hx
  unfold kids at hx
  obtain ⟨i, _, hi⟩ := List.mem_filterMap.mp hx
  unfold kc at hi
  cases q : sw V o e.2.length e.1 i with
  | none => rw [q] at hi; cases hi
  | some s' =>
    rw [q] at hi
    have hi : (if seat V b s' = true then none else if kok V b (e.2.length + 1) s' = true then some (s', e.2 ++ [s'.2]) else none) = some x := hi
    have ok := sw_ok h.1 q
    split at hi
    · cases hi
    · split at hi
      · have := Option.some.inj hi
        subst this
        refine ⟨ok, by rw [h1]; omega, fun c hc => ?_⟩
        rcases List.mem_append.mp hc with z | z
        · exact h.2.2 c z
        · rw [List.mem_singleton.mp z]
          have := ok.1
          omega
      · cases hi
def kd (V : xV) (o : Option xAR) (b : Nat) (e : xE) (i : Nat) : List xE := (List.range i).filterMap (kc V o b e)
theorem kd_n {V : xV} {o : Option xAR} {b i : Nat} {e : xE} (h : kc V o b e i = none) : kd V o b e (i + 1) = kd V o b e i := by
  unfold kd
  rw [List.range_succ, List.filterMap_append, List.filterMap_cons_none h]
  exact List.append_nil _
theorem kd_s {V : xV} {o : Option xAR} {b i : Nat} {e x : xE} (h : kc V o b e i = some x) : kd V o b e (i + 1) = kd V o b e i ++ [x] := by
  unfold kd
  rw [List.range_succ, List.filterMap_append, List.filterMap_cons_some h]
  rfl
theorem kd_kids {V : xV} {o : Option xAR} {b i : Nat} {e x : xE} (hi : i ≤ 5) (hx : x ∈ kd V o b e i) : x ∈ kids V o b e := by
  obtain ⟨t, ht, hx2⟩ := List.mem_filterMap.mp hx
  exact List.mem_filterMap.mpr ⟨t, List.mem_range.mpr (by have := List.mem_range.mp ht; omega), hx2⟩
theorem kd_len {V : xV} {o : Option xAR} {b i : Nat} {e : xE} : (kd V o b e i).length ≤ i := Nat.le_trans (List.length_filterMap_le _ _) (Nat.le_of_eq List.length_range)
theorem fR_n {α : Type} {f : Nat → Option α} {i : Nat} (h : fS f (List.range i) = none) (h2 : f i = none) : fS f (List.range (i + 1)) = none := by
  rw [List.range_succ, fS_app, h]
  exact (fS_n h2).trans rfl
theorem fR_s {α : Type} {f : Nat → Option α} {i : Nat} {w : α} (h : fS f (List.range i) = none) (h2 : f i = some w) : ∀ n, i < n → fS f (List.range n) = some w
  | 0, q => absurd q (by omega)
  | n + 1, q => by
    rw [List.range_succ, fS_app]
    by_cases e : i = n
    · subst e
      rw [h]
      exact fS_s h2
    · rw [fR_s h h2 n (by omega)]
theorem kc_n {V : xV} {o : Option xAR} {b i : Nat} {e : xE} (h : sw V o e.2.length e.1 i = none) : kc V o b e i = none ∧ fc V o b e i = none := ⟨ob_n h, ob_n h⟩
theorem kc_seat {V : xV} {o : Option xAR} {b i : Nat} {e : xE} {s' : xS} (h : sw V o e.2.length e.1 i = some s') (h2 : s'.1 b = V 3 b) : fc V o b e i = some (e.2 ++ [s'.2]) := (ob_s h).trans (if_pos (seat_t h2))
theorem kc_kok {V : xV} {o : Option xAR} {b i : Nat} {e : xE} {s' : xS} (h : sw V o e.2.length e.1 i = some s') (h2 : ¬ s'.1 b = V 3 b) (h3 : rnd (s'.1 b) (V 3 b) + (e.2.length + 1) ≤ 5) : kc V o b e i = some (s', e.2 ++ [s'.2]) ∧ fc V o b e i = none := ⟨(ob_s h).trans ((if_neg (seat_f h2)).trans (if_pos (kok_t h3))), (ob_s h).trans (if_neg (seat_f h2))⟩
theorem kc_far {V : xV} {o : Option xAR} {b i : Nat} {e : xE} {s' : xS} (h : sw V o e.2.length e.1 i = some s') (h2 : ¬ s'.1 b = V 3 b) (h3 : ¬ rnd (s'.1 b) (V 3 b) + (e.2.length + 1) ≤ 5) : kc V o b e i = none ∧ fc V o b e i = none := ⟨(ob_s h).trans ((if_neg (seat_f h2)).trans (if_neg (kok_f h3))), (ob_s h).trans (if_neg (seat_f h2))⟩
/-- what the search leaves as it is -/
def huP (tr hu : Nat) (I J : xI) : Prop := ∀ a, (a < tr ∨ tr + 18 ≤ a) → (a < hu ∨ hu + 6 ≤ a) → J a = I a
def huL (hu : Nat) (L L' : xL) : Prop := ∀ a, a ≠ hu + 1 → L' a = L a
theorem neg5 {n : Nat} (h : n < 2 ^ 31) : ¬ nI n = -5 := fun q => by
  have := nI_pos h
  rw [q] at this
  exact this (by decide)

set_option maxHeartbeats 4000000 in
set_option maxRecDepth 100000 in
theorem l_srchF {T : xT} {n : Nat} {sh : Nat → Nat × Nat} {I : xI} {R : xR} {L : xL} {P : xPost} {tr hu m : Nat} (hH : xHunt sh R hu) (hm : m ≤ 781) {nn : Nat} (hnn : nn < 1000) (h3 : I hu 3 = nI nn) (hm1 : I (hu + 2) 1 = nI m) (K : P (n, sh, 0, 0) I R L none) {b st : Nat}  : ∀ (w i : Nat), i + w = 782 → X T zX1_search 6 0 0 P 48 [(0, .ref hu), (1, .ref tr), (2, .int (nI b)), (3, .int (nI st)), (4, .int (nI i))] [] (n, sh, 0, 0) (I) R L := by
  intro w
  induction w with
  | zero =>
    intro i hw
    have hz : i = 782 := by omega
    refine x_iload (pc := 48) dX1_search_48 rfl ?_
    refine x_aload_n (pc := 50) dX1_search_50 rfl rfl ?_
    refine x_getr (pc := 51) dX1_search_51 kf_RX1_20 hH.1 rfl hH.2.2.2.1 ?_
    refine x_get (pc := 54) dX1_search_54 kf_RX1_50 hH.2.2.2.2.2.1.1 rfl ?_
    rw [hm1]
    refine x_icmpn_ge_t (pc := 57) (tgt := 235) (a := i) (b := m) dX1_search_57 (by decide) (by omega) (by omega) (by omega) ?_
    refine x_return (pc := 235) dX1_search_235 rfl ⟨Nat.le_refl _, Nat.le_refl _⟩ ?_
    exact K
  | succ w ih =>
    intro i hw
    have hi : i < 782 := by omega
    refine x_iload (pc := 48) dX1_search_48 rfl ?_
    refine x_aload_n (pc := 50) dX1_search_50 rfl rfl ?_
    refine x_getr (pc := 51) dX1_search_51 kf_RX1_20 hH.1 rfl hH.2.2.2.1 ?_
    refine x_get (pc := 54) dX1_search_54 kf_RX1_50 hH.2.2.2.2.2.1.1 rfl ?_
    rw [hm1]
    refine x_icmpn_ge (pc := 57) (tgt := 235) (a := i) (b := m) dX1_search_57 (by decide) (by omega) (by omega) (fun c57 => ?_) (fun c57 => ?_)
    · skip
      refine x_return (pc := 235) dX1_search_235 rfl ⟨Nat.le_refl _, Nat.le_refl _⟩ ?_
      exact K
    · skip
      refine x_iload (pc := 60) dX1_search_60 rfl ?_
      refine x_sipush (pc := 62) (v := 781) dX1_search_62 (by decide) ?_
      refine x_icmpn_ge_f (pc := 65) (tgt := 235) (a := i) (b := 781) dX1_search_65 (by decide) (by omega) (by decide) (by omega) ?_
      refine x_iload (pc := 68) dX1_search_68 rfl ?_
      refine x_aload_n (pc := 70) dX1_search_70 rfl rfl ?_
      refine x_getr (pc := 71) dX1_search_71 kf_RX1_11 hH.1 rfl hH.2.1 ?_
      refine x_alen (pc := 74) (v := 781) dX1_search_74 hH.2.2.1 ⟨by decide, by decide⟩ (by decide) ?_
      refine x_icmpn_ge_f (pc := 75) (tgt := 235) (a := i) (b := 781) dX1_search_75 (by decide) (by omega) (by decide) (by omega) ?_
      refine x_aload_n (pc := 78) dX1_search_78 rfl rfl ?_
      refine x_getr (pc := 79) dX1_search_79 kf_RX1_24 hH.1 rfl hH.2.2.2.2.1 ?_
      refine x_iload (pc := 82) dX1_search_82 rfl ?_
      refine x_callV (pc := 84) (As := [.int _]) dX1_search_84 km_X5_at kv_X5_at kl_RX1_53 hH.2.2.2.2.2.2.1 rfl rfl (by decide) ⟨Nat.le_refl _, Nat.le_refl _⟩ rfl (Nat.le_of_ble_eq_true rfl) (Nat.le_of_ble_eq_true rfl) (c_at hH.2.2.2.2.2.2 (⟨rfl, rfl, ?_⟩))
      refine x_iconst (pc := 87) (v := 1) dX1_search_87 (by decide) ?_
      refine x_iadd (pc := 88) dX1_search_88 ?_
      refine x_topi (fun v89 ev89 => ?_)
      refine x_istore (pc := 89) (lv' := [(0, .ref hu), (1, .ref tr), (2, .int (nI b)), (3, .int (nI st)), (4, .int (nI i)), (5, .int v89)]) dX1_search_89 (by decide) rfl ?_
      refine x_iconst (pc := 91) (v := 0) dX1_search_91 (by decide) ?_
      refine x_istore (pc := 92) (lv' := [(0, .ref hu), (1, .ref tr), (2, .int (nI b)), (3, .int (nI st)), (4, .int (nI i)), (5, .int v89), (6, .int 0)]) dX1_search_92 (by decide) rfl ?_
      refine x_iload (pc := 94) dX1_search_94 rfl ?_
      refine x_iconst (pc := 96) (v := 5) dX1_search_96 (by decide) ?_
      refine x_icmp_ge_f (pc := 97) (tgt := 229) dX1_search_97 (by decide) (by decide) ?_
      refine x_aload_n (pc := 100) dX1_search_100 rfl rfl ?_
      refine x_get (pc := 101) dX1_search_101 kf_RX1_27 hH.1 rfl ?_
      rw [h3]
      refine x_bipush (pc := 104) (v := -5) dX1_search_104 (by decide) ?_
      refine x_icmp_ne_t (pc := 106) (tgt := 229) dX1_search_106 (by decide) (neg5 (by omega)) ?_
      refine x_iinc (pc := 229) (v := nI (i + 1)) (lv' := [(0, .ref hu), (1, .ref tr), (2, .int (nI b)), (3, .int (nI st)), (4, .int (nI (i + 1))), (5, .int v89), (6, .int 0)]) dX1_search_229 rfl (nI_1 _) (by decide) rfl ?_
      refine x_goto (pc := 232) (tgt := 48) dX1_search_232 (by decide) ?_
      exact X.keep [0, 1, 2, 3, 4] rfl (ih (i + 1) (by omega))

set_option maxHeartbeats 4000000 in
set_option maxRecDepth 100000 in
theorem l_inF {T : xT} {n : Nat} {sh : Nat → Nat × Nat} {I : xI} {R : xR} {L : xL} {P : xPost} {tr hu b st k l i nn : Nat} (hH : xHunt sh R hu) (hi : i ≤ 5) (hnn : nn < 1000) (h3 : I hu 3 = nI nn) (K : X T zX1_search 6 0 0 P 229 [(0, .ref hu), (1, .ref tr), (2, .int (nI b)), (3, .int (nI st)), (4, .int (nI k))] [] (n, sh, 0, 0) I R L)  :  X T zX1_search 6 0 0 P 94 [(0, .ref hu), (1, .ref tr), (2, .int (nI b)), (3, .int (nI st)), (4, .int (nI k)), (5, .int (nI (l + 1))), (6, .int (nI i))] [] (n, sh, 0, 0) (I) R L := by
  refine x_iload (pc := 94) dX1_search_94 rfl ?_
  refine x_iconst (pc := 96) (v := 5) dX1_search_96 (by decide) ?_
  refine x_icmpn_ge (pc := 97) (tgt := 229) (a := i) (b := 5) dX1_search_97 (by decide) (by omega) (by decide) (fun c97 => ?_) (fun c97 => ?_)
  · skip
    exact X.keep [0, 1, 2, 3, 4] rfl K
  · skip
    refine x_aload_n (pc := 100) dX1_search_100 rfl rfl ?_
    refine x_get (pc := 101) dX1_search_101 kf_RX1_27 hH.1 rfl ?_
    rw [h3]
    refine x_bipush (pc := 104) (v := -5) dX1_search_104 (by decide) ?_
    refine x_icmp_ne_t (pc := 106) (tgt := 229) dX1_search_106 (by decide) (neg5 (by omega)) ?_
    exact X.keep [0, 1, 2, 3, 4] rfl K

theorem SC.keepHi {sh : Nat → Nat × Nat} {R : xR} {I I' : xI} {b nb ta te lo : Nat} {ki ve ce sto hu : Nat → Nat} {o : Option xAR} (h : SC sh R I b nb ki ve ce sto hu ta te lo (lnO o)) (hh : Nat) (hb : b + 18 ≤ hh) (h1 : ∀ a, a ≠ hh + 2 → a ≠ hh + 3 → a ≠ hh + 4 → a ≠ hh + 5 → I' a = I a) (hs : ∀ rg, R b 11 = some rg → ∀ k, 1 ≤ k → k ≤ 6 → rg + k ≠ hh + 2 ∧ rg + k ≠ hh + 3 ∧ rg + k ≠ hh + 4 ∧ rg + k ≠ hh + 5) : SC sh R I' b nb ki ve ce sto hu ta te lo (lnO o) := by
  obtain ⟨a1, a2, a3, a4, a5, a6, a7, a8, a9, a10, a11, a12, a13, a14, a15⟩ := h
  have k : ∀ j, j ≤ 17 → I' (b + j) = I (b + j) := fun j hj => h1 _ (by omega) (by omega) (by omega) (by omega)
  have k0 : I' b = I b := k 0 (by omega)
  refine ⟨a1, a2, a3.keep (k 1 (by omega)) (k 2 (by omega)), a4.keep (k 3 (by omega)) (k 4 (by omega)), a5.keep (k 5 (by omega)) (k 6 (by omega)), a6.keep (k 7 (by omega)) (k 8 (by omega)), a7.keep (k 9 (by omega)) (k 10 (by omega)), a8, by rw [k0]; exact a9, a10, by rw [k0]; exact a11, a12, by rw [k0]; exact a13, a14, ?_⟩
  rcases a15 with q | ⟨rg, q1, q2, q3⟩
  · exact Or.inl q
  · refine Or.inr ⟨rg, q1, q2, ?_⟩
    have e : ∀ k, 1 ≤ k → k ≤ 6 → I' (rg + k) = I (rg + k) := fun k p1 p2 => by
      obtain ⟨z1, z2, z3, z4⟩ := hs rg q1 k p1 p2
      exact h1 _ z1 z2 z3 z4
    revert q3
    unfold rgEval
    rw [e 1 (by omega) (by omega), e 2 (by omega) (by omega), e 3 (by omega) (by omega), e 4 (by omega) (by omega), e 5 (by omega) (by omega), e 6 (by omega) (by omega)]
    exact id

set_option maxHeartbeats 4000000 in
set_option maxRecDepth 100000 in
theorem l_in {T : xT} {n : Nat} {sh : Nat → Nat × Nat} {I : xI} {R : xR} {L : xL} {P : xPost} {tr hu b k : Nat} {V : xV} {B : Nat} {o : Option xAR} (hv : VOK V B) (hB : B < 800000) (hH : xHunt sh R hu) (htr : tr + 18 ≤ hu) (hb : b < V 8 0) {q : List xE} {e : xE} (he : EOK V e) (hk : q[k]? = some e) (hqe : ∀ x ∈ q, EOK V x) (hq7 : q.length ≤ 781) (hrm : e.2.length < 4 → q.length + 5 ≤ 781) (hrg : ∀ rg, R tr 11 = some rg → ∀ k, 1 ≤ k → k ≤ 6 → rg + k ≠ hu + 2 ∧ rg + k ≠ hu + 3 ∧ rg + k ≠ hu + 4 ∧ rg + k ≠ hu + 5) (K1 : ∀ (J : xI) (Q : xL) (wk : List Nat) (m : Nat), fnd V o b e = some wk → wk.length ≤ 5 → J hu 3 = nI wk.length → J hu 4 = nI (cdN wk) → J (hu + 2) 1 = nI m → m ≤ 781 → huP tr hu I J → huL hu L Q → X T zX1_search 6 0 0 P 229 [(0, .ref hu), (1, .ref tr), (2, .int (nI b)), (3, .int (nI (V 8 2))), (4, .int (nI k))] [] (n, sh, 0, 0) J R Q) (K2 : ∀ (J : xI) (Q : xL) (ce : Nat → Nat) (ta te : Nat), fnd V o b e = none → HQ J Q hu (V 8 0) (wkL (V 8 0) q (kids V o b e)) → J hu 3 = -5 → SC sh R J tr (V 8 0) (V 0) (V 1) ce (V 3) (V 4) ta te 0 (lnO o) → huP tr hu I J → huL hu L Q → X T zX1_search 6 0 0 P 229 [(0, .ref hu), (1, .ref tr), (2, .int (nI b)), (3, .int (nI (V 8 2))), (4, .int (nI k))] [] (n, sh, 0, 0) J R Q)  : ∀ (w i : Nat), i + w = 5 → ∀ (J : xI) (Q : xL) (ce : Nat → Nat) (ta te : Nat), HQ J Q hu (V 8 0) (wkL (V 8 0) q (kd V o b e i)) → J hu 3 = -5 → fS (fc V o b e) (List.range i) = none → SC sh R J tr (V 8 0) (V 0) (V 1) ce (V 3) (V 4) ta te 0 (lnO o) → huP tr hu I J → huL hu L Q → X T zX1_search 6 0 0 P 94 [(0, .ref hu), (1, .ref tr), (2, .int (nI b)), (3, .int (nI (V 8 2))), (4, .int (nI k)), (5, .int (nI (e.2.length + 1))), (6, .int (nI i))] [] (n, sh, 0, 0) (J) R Q := by
  obtain ⟨v6, v12, v10, vb, vf, vw, vm, vta, vte, vod, vrg, vdi⟩ := id hv
  obtain ⟨⟨es1, es2⟩, e4, e64⟩ := id he
  have cl := cdN_lt e.2 e4 e64
  have hkq : k < q.length := by
    rcases Nat.lt_or_ge k q.length with p | p
    · exact p
    · rw [List.getElem?_eq_none p] at hk
      cases hk
  intro w
  induction w with
  | zero =>
    intro i hw J Q ce ta te hq h5 hno hj fj fq
    have hz : i = 5 := by omega
    refine x_iload (pc := 94) dX1_search_94 rfl ?_
    refine x_iconst (pc := 96) (v := 5) dX1_search_96 (by decide) ?_
    refine x_icmpn_ge_t (pc := 97) (tgt := 229) (a := i) (b := 5) dX1_search_97 (by decide) (by omega) (by decide) (by omega) ?_
    rw [hz] at hq hno
    exact X.keep [0, 1, 2, 3, 4] rfl (K2 J Q ce ta te hno hq h5 hj fj fq)
  | succ w ih =>
    intro i hw J Q ce ta te hq h5 hno hj fj fq
    have hi : i < 5 := by omega
    have hS := hj.1
    obtain ⟨nw, hnw, hnl, hnm⟩ := wkL_is (nb := V 8 0) (kd V o b e i) q
    have hkk : (wkL (V 8 0) q (kd V o b e i))[k]? = some e := by
      rw [hnw]
      exact (List.getElem?_append_left hkq).trans hk
    obtain ⟨f1, f2, f3⟩ := hq.2.2 k e hkk
    have kl := @kd_len V o b i e
    have ql : (wkL (V 8 0) q (kd V o b e i)).length = q.length + nw.length := by rw [hnw, List.length_append]
    have q781 : (wkL (V 8 0) q (kd V o b e i)).length ≤ 781 := by
      rw [ql]
      by_cases z : e.2.length < 4
      · have := hrm z
        omega
      · have : kd V o b e i = [] := List.eq_nil_iff_forall_not_mem.mpr (fun x hx => by
          have hx5 := kd_kids (by omega) hx
          rw [kids_5 (by omega)] at hx5
          cases hx5)
        rw [this] at hnl
        have : nw.length ≤ 0 := hnl
        omega
    have hqa : ∀ x ∈ (wkL (V 8 0) q (kd V o b e i)), (x.1.2 < 36 ∧ ∀ i, i < V 8 0 → x.1.1 i < 36) ∧ x.2.length ≤ 4 := fun x hx => by
      rw [hnw] at hx
      rcases List.mem_append.mp hx with z | z
      · exact ⟨(hqe x z).1, (hqe x z).2.1⟩
      · have z2 := kids_ok he (kd_kids (by omega) (hnm x z))
        exact ⟨z2.1, z2.2.1⟩
    refine x_iload (pc := 94) dX1_search_94 rfl ?_
    refine x_iconst (pc := 96) (v := 5) dX1_search_96 (by decide) ?_
    refine x_icmpn_ge_f (pc := 97) (tgt := 229) (a := i) (b := 5) dX1_search_97 (by decide) (by omega) (by decide) (by omega) ?_
    refine x_aload_n (pc := 100) dX1_search_100 rfl rfl ?_
    refine x_get (pc := 101) dX1_search_101 kf_RX1_27 hH.1 rfl ?_
    rw [h5]
    refine x_bipush (pc := 104) (v := -5) dX1_search_104 (by decide) ?_
    refine x_icmp_ne_f (pc := 106) (tgt := 229) dX1_search_106 (by decide) (by decide) ?_
    refine x_aload_n (pc := 109) dX1_search_109 rfl rfl ?_
    refine x_aload_n (pc := 110) dX1_search_110 rfl rfl ?_
    refine x_getr (pc := 111) dX1_search_111 kf_RX1_11 hH.1 rfl hH.2.1 ?_
    refine x_iload (pc := 114) dX1_search_114 rfl ?_
    refine x_laldn (pc := 116) (a := k) dX1_search_116 hH.2.2.1 (by omega) (by omega) ?_
    rw [f1]
    refine x_callV (pc := 117) (As := [.long _]) dX1_search_117 km_X6_setPlaces kv_X6_setPlaces kl_RX1_57 hS.1 rfl rfl (by decide) ⟨Nat.le_refl _, Nat.le_refl _⟩ rfl (Nat.le_of_ble_eq_true rfl) (Nat.le_of_ble_eq_true rfl) (c_setPlaces (ce := e.1.1) (ta := e.1.2) es1 es2 (fun J1 j1 g1 => ⟨rfl, rfl, ?_⟩) hj)
    refine x_aload_n (pc := 120) dX1_search_120 rfl rfl ?_
    refine x_iload_n (pc := 121) dX1_search_121 rfl rfl ?_
    refine x_iload (pc := 122) dX1_search_122 rfl ?_
    refine x_iaddn (pc := 124) (a := (V 8 2)) (b := (e.2.length + 1)) dX1_search_124 ?_
    refine x_iconst (pc := 125) (v := 1) dX1_search_125 (by decide) ?_
    refine x_isubn (pc := 126) (a := ((V 8 2) + (e.2.length + 1))) (b := 1) dX1_search_126 (by omega) ?_
    rw [show V 8 2 + (e.2.length + 1) - 1 = V 8 2 + e.2.length by omega]
    refine x_put (pc := 127) dX1_search_127 kf_RX1_34 hS.1 rfl (Or.inl kb_6_9) ?_
    have j2 := j1.setTenth (t := V 8 2 + e.2.length) (by omega)
    have gB : ∀ a, (a < tr ∨ tr + 18 ≤ a) → up2 J1 tr 9 (nI (V 8 2 + e.2.length)) a = J a := fun a p => (up2_row (by omega)).trans (g1.1 a (by omega) (by omega) (by omega))
    have gA : ∀ a, hu ≤ a → up2 J1 tr 9 (nI (V 8 2 + e.2.length)) a = J a := fun a p => gB a (by omega)
    refine x_aload_n (pc := 130) dX1_search_130 rfl rfl ?_
    refine x_get (pc := 131) dX1_search_131 kf_RX1_61 hS.1 rfl ?_
    rw [j2.2.2.2.2.2.2.2.2.1]
    refine x_iload (pc := 134) dX1_search_134 rfl ?_
    refine x_callS (pc := 136) (As := [.int _, .int _]) dX1_search_136 km_X1_cellOfWay ks_X1_cellOfWay kl_RX1_64 rfl (by decide) ⟨Nat.le_refl _, Nat.le_refl _⟩ rfl (Nat.le_of_ble_eq_true rfl) (Nat.le_of_ble_eq_true rfl) (c_cellOfWay es1 hi (fun c hc => ⟨rfl, rfl, ?_⟩) (fun hc => ⟨rfl, rfl, ?_⟩))
    · skip
      have hc36 := wyc_lt es1 hc
      refine x_istore (pc := 139) (lv' := [(0, .ref hu), (1, .ref tr), (2, .int (nI b)), (3, .int (nI (V 8 2))), (4, .int (nI k)), (5, .int (nI (e.2.length + 1))), (6, .int (nI i)), (7, .int (nI c))]) dX1_search_139 (by decide) rfl ?_
      refine x_iload (pc := 141) dX1_search_141 rfl ?_
      refine x_iconst (pc := 143) (v := -1) dX1_search_143 (by decide) ?_
      refine x_icmp_eq_f (pc := 144) (tgt := 223) dX1_search_144 (by decide) (nI_nem (by omega)) ?_
      refine x_aload_n (pc := 147) dX1_search_147 rfl rfl ?_
      refine x_iload (pc := 148) dX1_search_148 rfl ?_
      refine x_callV (pc := 150) (As := [.int _]) dX1_search_150 km_X6_goTo kv_X6_goTo kl_RX1_68 hS.1 rfl rfl (by decide) ⟨Nat.le_refl _, Nat.le_refl _⟩ rfl (Nat.le_of_ble_eq_true rfl) (Nat.le_of_ble_eq_true rfl) (c_goTo (x := c) hS j2.2.2.2.2.1 v6 es2 j2.2.2.2.2.2.2.2.2.1 es1 hc36 (fun mg => ⟨rfl, rfl, ?_⟩) (fun mg => ⟨rfl, rfl, ?_⟩))
      · skip
        have j3 := j2.setTamer (t := c) hc36
        refine x_if_ne_t (pc := 153) (tgt := 159) dX1_search_153 (by decide) (by decide) ?_
        refine x_aload_n (pc := 159) dX1_search_159 rfl rfl ?_
        refine x_callV (pc := 160) (As := []) dX1_search_160 km_X6_passTenth kv_X6_passTenth kl_RX1_71 hS.1 rfl rfl (by decide) ⟨Nat.le_refl _, Nat.le_refl _⟩ rfl (Nat.le_of_ble_eq_true rfl) (Nat.le_of_ble_eq_true rfl) (c_passTenth j3 (by omega) (fun J4 j4 g4 => ⟨rfl, rfl, ?_⟩))
        have j4 : SC sh R J4 tr (V 8 0) (V 0) (V 1) (sTen V o e.2.length e.1 c) (V 3) (V 4) c (V 8 2 + e.2.length + 1) 0 (lnO o) := j4
        have g5 : huP tr hu I J4 := fun a p1 p2 => by rw [g4.1 a (by omega) (by omega) (by omega), up2_row (by omega), up2_row (by omega), g1.1 a (by omega) (by omega) (by omega)]; exact fj a p1 p2
        have g6 : ∀ a, hu ≤ a → J4 a = J a := fun a p => by rw [g4.1 a (by omega) (by omega) (by omega), up2_row (by omega), up2_row (by omega), g1.1 a (by omega) (by omega) (by omega)]
        have hq4 : HQ J4 Q hu (V 8 0) (wkL (V 8 0) q (kd V o b e i)) := hq.keep (g6 _ (by omega)) (g6 _ (by omega)) (g6 _ (by omega)) (g6 _ (by omega)) rfl
        have h54 : J4 hu 3 = -5 := (congrFun (g6 hu (by omega)) 3).trans h5
        refine x_aload_n (pc := 163) dX1_search_163 rfl rfl ?_
        refine x_callV (pc := 164) (As := []) dX1_search_164 km_X6_isCaught kv_X6_isCaught kl_RX1_74 hS.1 rfl rfl (by decide) ⟨Nat.le_refl _, Nat.le_refl _⟩ rfl (Nat.le_of_ble_eq_true rfl) (Nat.le_of_ble_eq_true rfl) (c_isCaught hS j4.2.2.2.2.1 v6 (fun a ha => (j4.2.2.2.2.2.2.2.1 a ha).2.2.1) j4.2.2.2.2.2.2.2.2.1 hc36 (fun hh => ⟨rfl, rfl, ?_⟩) (fun hf => ⟨rfl, rfl, ?_⟩))
        · skip
          refine x_if_eq_f (pc := 167) (tgt := 173) dX1_search_167 (by decide) (by decide) ?_
          refine x_goto (pc := 170) (tgt := 223) dX1_search_170 (by decide) ?_
          refine x_iinc (pc := 223) (v := nI (i + 1)) (lv' := [(0, .ref hu), (1, .ref tr), (2, .int (nI b)), (3, .int (nI (V 8 2))), (4, .int (nI k)), (5, .int (nI (e.2.length + 1))), (6, .int (nI (i + 1))), (7, .int (nI c))]) dX1_search_223 rfl (nI_1 _) (by decide) rfl ?_
          refine x_goto (pc := 226) (tgt := 94) dX1_search_226 (by decide) ?_
          first
          | (have hn : sw V o e.2.length e.1 i = none := sw_n hc
             exact X.keep [0, 1, 2, 3, 4, 5, 6] rfl (ih (i + 1) (by omega) _ Q _ _ _ (by rw [kd_n (kc_n hn).1]; exact hq.keep (gA _ (by omega)) (gA _ (by omega)) (gA _ (by omega)) (gA _ (by omega)) rfl) ((congrFun (gA hu (by omega)) 3).trans h5) (fR_n hno (kc_n hn).2) j2 (fun a p1 p2 => (gB a p1).trans (fj a p1 p2)) fq))
          | (have hn : sw V o e.2.length e.1 i = none := (sw_s hc).trans (sgo_n mg)
             exact X.keep [0, 1, 2, 3, 4, 5, 6] rfl (ih (i + 1) (by omega) _ Q _ _ _ (by rw [kd_n (kc_n hn).1]; exact hq.keep (gA _ (by omega)) (gA _ (by omega)) (gA _ (by omega)) (gA _ (by omega)) rfl) ((congrFun (gA hu (by omega)) 3).trans h5) (fR_n hno (kc_n hn).2) j2 (fun a p1 p2 => (gB a p1).trans (fj a p1 p2)) fq))
          | (have hn : sw V o e.2.length e.1 i = none := (sw_s hc).trans (sgo_c hh)
             exact X.keep [0, 1, 2, 3, 4, 5, 6] rfl (ih (i + 1) (by omega) _ Q _ _ _ (by rw [kd_n (kc_n hn).1]; exact hq4) h54 (fR_n hno (kc_n hn).2) j4 g5 fq))
          | (have hfd := fR_s hno (kc_seat hsw se) 5 hi
             have wl : (e.2 ++ [c]).length = e.2.length + 1 := by simp
             refine X.keep [0, 1, 2, 3, 4, 5, 6] rfl (l_inF hH (show i + 1 ≤ 5 by omega) (nn := e.2.length + 1) (by omega) ((up2_k (by decide)).trans up2_s) ?_)
             exact K1 _ Q (e.2 ++ [c]) (wkL (V 8 0) q (kd V o b e i)).length hfd (by rw [wl]; omega) (by rw [wl]; exact (up2_k (by decide)).trans up2_s) (up2_s.trans (congrArg nI cdN_s.symm)) ((congrFun ((up2_row (by omega)).trans (up2_row (by omega))) 1).trans hq4.1) q781 (fun a p1 p2 => (up2_row (by omega)).trans ((up2_row (by omega)).trans (g5 a p1 p2))) fq)
          | (have n12 := kc_far hsw se kk
             obtain ⟨n1, n2⟩ := n12
             exact X.keep [0, 1, 2, 3, 4, 5, 6] rfl (ih (i + 1) (by omega) _ Q _ _ _ (by rw [kd_n n1]; exact hq4) h54 (fR_n hno n2) j4 g5 fq))
          | (have n12 := kc_kok hsw se kk
             obtain ⟨n1, n2⟩ := n12
             have el : (e.2 ++ [c]).length = e.2.length + 1 := by simp
             have ik2 : ikp (V 8 0) (wkL (V 8 0) q (kd V o b e i)) ((sTen V o e.2.length e.1 c, c), e.2 ++ [c]) = false := by
               unfold ikp
               rw [el]
               exact ik
             have ha := hq4.add (s := (sTen V o e.2.length e.1 c, c)) (w := e.2 ++ [c]) (x := nI (cdN e.2 * 64 + c)) (congrArg nI cdN_s.symm)
             rw [el] at ha
             refine X.keep [0, 1, 2, 3, 4, 5, 6] rfl (ih (i + 1) (by omega) _ _ _ _ _ (by rw [kd_s n1, wkL_snoc, wkK_f ik2]; exact ha) ?_ (fR_n hno n2) (j4.keepHi hu htr (fun a p1 p2 p3 p4 => (up2_row p3).trans ((up2_row p4).trans ((up2_row p1).trans (up2_row p2)))) hrg) (fun a p1 p2 => ?_) (fun a p => (up2_row p).trans (fq a p)))
             · exact (congrFun ((up2_row (by omega)).trans ((up2_row (by omega)).trans ((up2_row (by omega)).trans (up2_row (by omega))))) 3).trans h54
             · exact (up2_row (by omega)).trans ((up2_row (by omega)).trans ((up2_row (by omega)).trans ((up2_row (by omega)).trans (g5 a p1 p2)))))
          | (have n12 := kc_kok hsw se kk
             obtain ⟨n1, n2⟩ := n12
             have el : (e.2 ++ [c]).length = e.2.length + 1 := by simp
             have ik2 : ikp (V 8 0) (wkL (V 8 0) q (kd V o b e i)) ((sTen V o e.2.length e.1 c, c), e.2 ++ [c]) = true := by
               unfold ikp
               rw [el]
               exact ik
             exact X.keep [0, 1, 2, 3, 4, 5, 6] rfl (ih (i + 1) (by omega) _ Q _ _ _ (by rw [kd_s n1, wkL_snoc, wkK_t ik2]; exact hq4) h54 (fR_n hno n2) j4 g5 fq))
        · skip
          have hsw : sw V o e.2.length e.1 i = some (sTen V o e.2.length e.1 c, c) := (sw_s hc).trans (sgo_s mg hf)
          refine x_if_eq_t (pc := 167) (tgt := 173) dX1_search_167 (by decide) (by decide) ?_
          refine x_aload_n (pc := 173) dX1_search_173 rfl rfl ?_
          refine x_getr (pc := 174) dX1_search_174 kf_RX1_20 hH.1 rfl hH.2.2.2.1 ?_
          refine x_iload (pc := 177) dX1_search_177 rfl ?_
          refine x_callV (pc := 179) (As := [.int _]) dX1_search_179 km_X5_at kv_X5_at kl_RX1_53 hH.2.2.2.2.2.1.1 rfl rfl (by decide) ⟨Nat.le_refl _, Nat.le_refl _⟩ rfl (Nat.le_of_ble_eq_true rfl) (Nat.le_of_ble_eq_true rfl) (c_at hH.2.2.2.2.2.1 (⟨rfl, rfl, ?_⟩))
          rw [hq4.1, rAt_in (m := (wkL (V 8 0) q (kd V o b e i)).length) (by rw [ql]; omega) q781 (by decide), (hq4.2.2 k e hkk).2.1]
          refine x_bipush (pc := 182) (v := 6) dX1_search_182 (by decide) ?_
          refine x_ishl (pc := 184) dX1_search_184 ?_
          refine x_iload (pc := 185) dX1_search_185 rfl ?_
          refine x_ior (pc := 187) dX1_search_187 ?_
          rw [ish_or cl (by omega)]
          refine x_istore (pc := 188) (lv' := [(0, .ref hu), (1, .ref tr), (2, .int (nI b)), (3, .int (nI (V 8 2))), (4, .int (nI k)), (5, .int (nI (e.2.length + 1))), (6, .int (nI i)), (7, .int (nI c)), (8, .int (nI (cdN e.2 * 64 + c)))]) dX1_search_188 (by decide) rfl ?_
          refine x_aload_n (pc := 190) dX1_search_190 rfl rfl ?_
          refine x_iload_n (pc := 191) dX1_search_191 rfl rfl ?_
          refine x_callV (pc := 192) (As := [.int _]) dX1_search_192 km_X6_isSeated kv_X6_isSeated kl_RX1_42 hS.1 rfl rfl (by decide) ⟨Nat.le_refl _, Nat.le_refl _⟩ rfl (Nat.le_of_ble_eq_true rfl) (Nat.le_of_ble_eq_true rfl) (c_isSeated (bi := b) hS j4.2.2.2.2.1 j4.2.2.2.2.2.1 v6 (fun a ha => (j4.2.2.2.2.2.2.2.1 a ha).2.2.1) (fun a ha => (vb a ha).2.2.2.1) hb (fun se => ⟨rfl, rfl, ?_⟩) (fun se => ⟨rfl, rfl, ?_⟩))
          · skip
            refine x_if_eq_f (pc := 195) (tgt := 213) dX1_search_195 (by decide) (by decide) ?_
            refine x_aload_n (pc := 198) dX1_search_198 rfl rfl ?_
            refine x_iload (pc := 199) dX1_search_199 rfl ?_
            refine x_put (pc := 201) dX1_search_201 kf_RX1_27 hH.1 rfl (Or.inl kb_1_3) ?_
            refine x_aload_n (pc := 204) dX1_search_204 rfl rfl ?_
            refine x_iload (pc := 205) dX1_search_205 rfl ?_
            refine x_put (pc := 207) dX1_search_207 kf_RX1_31 hH.1 rfl (Or.inl kb_1_4) ?_
            refine x_goto (pc := 210) (tgt := 223) dX1_search_210 (by decide) ?_
            refine x_iinc (pc := 223) (v := nI (i + 1)) (lv' := [(0, .ref hu), (1, .ref tr), (2, .int (nI b)), (3, .int (nI (V 8 2))), (4, .int (nI k)), (5, .int (nI (e.2.length + 1))), (6, .int (nI (i + 1))), (7, .int (nI c)), (8, .int (nI (cdN e.2 * 64 + c)))]) dX1_search_223 rfl (nI_1 _) (by decide) rfl ?_
            refine x_goto (pc := 226) (tgt := 94) dX1_search_226 (by decide) ?_
            first
            | (have hn : sw V o e.2.length e.1 i = none := sw_n hc
               exact X.keep [0, 1, 2, 3, 4, 5, 6] rfl (ih (i + 1) (by omega) _ Q _ _ _ (by rw [kd_n (kc_n hn).1]; exact hq.keep (gA _ (by omega)) (gA _ (by omega)) (gA _ (by omega)) (gA _ (by omega)) rfl) ((congrFun (gA hu (by omega)) 3).trans h5) (fR_n hno (kc_n hn).2) j2 (fun a p1 p2 => (gB a p1).trans (fj a p1 p2)) fq))
            | (have hn : sw V o e.2.length e.1 i = none := (sw_s hc).trans (sgo_n mg)
               exact X.keep [0, 1, 2, 3, 4, 5, 6] rfl (ih (i + 1) (by omega) _ Q _ _ _ (by rw [kd_n (kc_n hn).1]; exact hq.keep (gA _ (by omega)) (gA _ (by omega)) (gA _ (by omega)) (gA _ (by omega)) rfl) ((congrFun (gA hu (by omega)) 3).trans h5) (fR_n hno (kc_n hn).2) j2 (fun a p1 p2 => (gB a p1).trans (fj a p1 p2)) fq))
            | (have hn : sw V o e.2.length e.1 i = none := (sw_s hc).trans (sgo_c hh)
               exact X.keep [0, 1, 2, 3, 4, 5, 6] rfl (ih (i + 1) (by omega) _ Q _ _ _ (by rw [kd_n (kc_n hn).1]; exact hq4) h54 (fR_n hno (kc_n hn).2) j4 g5 fq))
            | (have hfd := fR_s hno (kc_seat hsw se) 5 hi
               have wl : (e.2 ++ [c]).length = e.2.length + 1 := by simp
               refine X.keep [0, 1, 2, 3, 4, 5, 6] rfl (l_inF hH (show i + 1 ≤ 5 by omega) (nn := e.2.length + 1) (by omega) ((up2_k (by decide)).trans up2_s) ?_)
               exact K1 _ Q (e.2 ++ [c]) (wkL (V 8 0) q (kd V o b e i)).length hfd (by rw [wl]; omega) (by rw [wl]; exact (up2_k (by decide)).trans up2_s) (up2_s.trans (congrArg nI cdN_s.symm)) ((congrFun ((up2_row (by omega)).trans (up2_row (by omega))) 1).trans hq4.1) q781 (fun a p1 p2 => (up2_row (by omega)).trans ((up2_row (by omega)).trans (g5 a p1 p2))) fq)
            | (have n12 := kc_far hsw se kk
               obtain ⟨n1, n2⟩ := n12
               exact X.keep [0, 1, 2, 3, 4, 5, 6] rfl (ih (i + 1) (by omega) _ Q _ _ _ (by rw [kd_n n1]; exact hq4) h54 (fR_n hno n2) j4 g5 fq))
            | (have n12 := kc_kok hsw se kk
               obtain ⟨n1, n2⟩ := n12
               have el : (e.2 ++ [c]).length = e.2.length + 1 := by simp
               have ik2 : ikp (V 8 0) (wkL (V 8 0) q (kd V o b e i)) ((sTen V o e.2.length e.1 c, c), e.2 ++ [c]) = false := by
                 unfold ikp
                 rw [el]
                 exact ik
               have ha := hq4.add (s := (sTen V o e.2.length e.1 c, c)) (w := e.2 ++ [c]) (x := nI (cdN e.2 * 64 + c)) (congrArg nI cdN_s.symm)
               rw [el] at ha
               refine X.keep [0, 1, 2, 3, 4, 5, 6] rfl (ih (i + 1) (by omega) _ _ _ _ _ (by rw [kd_s n1, wkL_snoc, wkK_f ik2]; exact ha) ?_ (fR_n hno n2) (j4.keepHi hu htr (fun a p1 p2 p3 p4 => (up2_row p3).trans ((up2_row p4).trans ((up2_row p1).trans (up2_row p2)))) hrg) (fun a p1 p2 => ?_) (fun a p => (up2_row p).trans (fq a p)))
               · exact (congrFun ((up2_row (by omega)).trans ((up2_row (by omega)).trans ((up2_row (by omega)).trans (up2_row (by omega))))) 3).trans h54
               · exact (up2_row (by omega)).trans ((up2_row (by omega)).trans ((up2_row (by omega)).trans ((up2_row (by omega)).trans (g5 a p1 p2)))))
            | (have n12 := kc_kok hsw se kk
               obtain ⟨n1, n2⟩ := n12
               have el : (e.2 ++ [c]).length = e.2.length + 1 := by simp
               have ik2 : ikp (V 8 0) (wkL (V 8 0) q (kd V o b e i)) ((sTen V o e.2.length e.1 c, c), e.2 ++ [c]) = true := by
                 unfold ikp
                 rw [el]
                 exact ik
               exact X.keep [0, 1, 2, 3, 4, 5, 6] rfl (ih (i + 1) (by omega) _ Q _ _ _ (by rw [kd_s n1, wkL_snoc, wkK_t ik2]; exact hq4) h54 (fR_n hno n2) j4 g5 fq))
          · skip
            refine x_if_eq_t (pc := 195) (tgt := 213) dX1_search_195 (by decide) (by decide) ?_
            refine x_aload_n (pc := 213) dX1_search_213 rfl rfl ?_
            refine x_aload_n (pc := 214) dX1_search_214 rfl rfl ?_
            refine x_iload_n (pc := 215) dX1_search_215 rfl rfl ?_
            refine x_iload (pc := 216) dX1_search_216 rfl ?_
            refine x_iload (pc := 218) dX1_search_218 rfl ?_
            refine x_callV (pc := 220) (As := [.ref _, .int _, .int _, .int _]) dX1_search_220 km_X1_keep kv_X1_keep kl_RX1_46 hH.1 rfl rfl (by decide) ⟨Nat.le_refl _, Nat.le_refl _⟩ rfl (Nat.le_of_ble_eq_true rfl) (Nat.le_of_ble_eq_true rfl) (c_keepB (q := (wkL (V 8 0) q (kd V o b e i))) hH j4 hb hq4 q781 hqa (show e.2.length + 1 ≤ 5 by omega) (by omega) (fun z => by
              have z4 : e.2.length < 4 := by
                rcases Nat.lt_or_ge e.2.length 4 with y | y
                · exact y
                · exact absurd (rnd_0 (show rnd (sTen V o e.2.length e.1 c b) (V 3 b) = 0 by omega)) se
              have := hrm z4
              rw [ql]
              omega) (fun kk ik => ⟨rfl, rfl, ?_⟩) (fun kk => ⟨rfl, rfl, ?_⟩) (fun kk ik => ⟨rfl, rfl, ?_⟩))
            · skip
              refine x_iinc (pc := 223) (v := nI (i + 1)) (lv' := [(0, .ref hu), (1, .ref tr), (2, .int (nI b)), (3, .int (nI (V 8 2))), (4, .int (nI k)), (5, .int (nI (e.2.length + 1))), (6, .int (nI (i + 1))), (7, .int (nI c)), (8, .int (nI (cdN e.2 * 64 + c)))]) dX1_search_223 rfl (nI_1 _) (by decide) rfl ?_
              refine x_goto (pc := 226) (tgt := 94) dX1_search_226 (by decide) ?_
              first
              | (have hn : sw V o e.2.length e.1 i = none := sw_n hc
                 exact X.keep [0, 1, 2, 3, 4, 5, 6] rfl (ih (i + 1) (by omega) _ Q _ _ _ (by rw [kd_n (kc_n hn).1]; exact hq.keep (gA _ (by omega)) (gA _ (by omega)) (gA _ (by omega)) (gA _ (by omega)) rfl) ((congrFun (gA hu (by omega)) 3).trans h5) (fR_n hno (kc_n hn).2) j2 (fun a p1 p2 => (gB a p1).trans (fj a p1 p2)) fq))
              | (have hn : sw V o e.2.length e.1 i = none := (sw_s hc).trans (sgo_n mg)
                 exact X.keep [0, 1, 2, 3, 4, 5, 6] rfl (ih (i + 1) (by omega) _ Q _ _ _ (by rw [kd_n (kc_n hn).1]; exact hq.keep (gA _ (by omega)) (gA _ (by omega)) (gA _ (by omega)) (gA _ (by omega)) rfl) ((congrFun (gA hu (by omega)) 3).trans h5) (fR_n hno (kc_n hn).2) j2 (fun a p1 p2 => (gB a p1).trans (fj a p1 p2)) fq))
              | (have hn : sw V o e.2.length e.1 i = none := (sw_s hc).trans (sgo_c hh)
                 exact X.keep [0, 1, 2, 3, 4, 5, 6] rfl (ih (i + 1) (by omega) _ Q _ _ _ (by rw [kd_n (kc_n hn).1]; exact hq4) h54 (fR_n hno (kc_n hn).2) j4 g5 fq))
              | (have hfd := fR_s hno (kc_seat hsw se) 5 hi
                 have wl : (e.2 ++ [c]).length = e.2.length + 1 := by simp
                 refine X.keep [0, 1, 2, 3, 4, 5, 6] rfl (l_inF hH (show i + 1 ≤ 5 by omega) (nn := e.2.length + 1) (by omega) ((up2_k (by decide)).trans up2_s) ?_)
                 exact K1 _ Q (e.2 ++ [c]) (wkL (V 8 0) q (kd V o b e i)).length hfd (by rw [wl]; omega) (by rw [wl]; exact (up2_k (by decide)).trans up2_s) (up2_s.trans (congrArg nI cdN_s.symm)) ((congrFun ((up2_row (by omega)).trans (up2_row (by omega))) 1).trans hq4.1) q781 (fun a p1 p2 => (up2_row (by omega)).trans ((up2_row (by omega)).trans (g5 a p1 p2))) fq)
              | (have n12 := kc_far hsw se kk
                 obtain ⟨n1, n2⟩ := n12
                 exact X.keep [0, 1, 2, 3, 4, 5, 6] rfl (ih (i + 1) (by omega) _ Q _ _ _ (by rw [kd_n n1]; exact hq4) h54 (fR_n hno n2) j4 g5 fq))
              | (have n12 := kc_kok hsw se kk
                 obtain ⟨n1, n2⟩ := n12
                 have el : (e.2 ++ [c]).length = e.2.length + 1 := by simp
                 have ik2 : ikp (V 8 0) (wkL (V 8 0) q (kd V o b e i)) ((sTen V o e.2.length e.1 c, c), e.2 ++ [c]) = false := by
                   unfold ikp
                   rw [el]
                   exact ik
                 have ha := hq4.add (s := (sTen V o e.2.length e.1 c, c)) (w := e.2 ++ [c]) (x := nI (cdN e.2 * 64 + c)) (congrArg nI cdN_s.symm)
                 rw [el] at ha
                 refine X.keep [0, 1, 2, 3, 4, 5, 6] rfl (ih (i + 1) (by omega) _ _ _ _ _ (by rw [kd_s n1, wkL_snoc, wkK_f ik2]; exact ha) ?_ (fR_n hno n2) (j4.keepHi hu htr (fun a p1 p2 p3 p4 => (up2_row p3).trans ((up2_row p4).trans ((up2_row p1).trans (up2_row p2)))) hrg) (fun a p1 p2 => ?_) (fun a p => (up2_row p).trans (fq a p)))
                 · exact (congrFun ((up2_row (by omega)).trans ((up2_row (by omega)).trans ((up2_row (by omega)).trans (up2_row (by omega))))) 3).trans h54
                 · exact (up2_row (by omega)).trans ((up2_row (by omega)).trans ((up2_row (by omega)).trans ((up2_row (by omega)).trans (g5 a p1 p2)))))
              | (have n12 := kc_kok hsw se kk
                 obtain ⟨n1, n2⟩ := n12
                 have el : (e.2 ++ [c]).length = e.2.length + 1 := by simp
                 have ik2 : ikp (V 8 0) (wkL (V 8 0) q (kd V o b e i)) ((sTen V o e.2.length e.1 c, c), e.2 ++ [c]) = true := by
                   unfold ikp
                   rw [el]
                   exact ik
                 exact X.keep [0, 1, 2, 3, 4, 5, 6] rfl (ih (i + 1) (by omega) _ Q _ _ _ (by rw [kd_s n1, wkL_snoc, wkK_t ik2]; exact hq4) h54 (fR_n hno n2) j4 g5 fq))
            · skip
              refine x_iinc (pc := 223) (v := nI (i + 1)) (lv' := [(0, .ref hu), (1, .ref tr), (2, .int (nI b)), (3, .int (nI (V 8 2))), (4, .int (nI k)), (5, .int (nI (e.2.length + 1))), (6, .int (nI (i + 1))), (7, .int (nI c)), (8, .int (nI (cdN e.2 * 64 + c)))]) dX1_search_223 rfl (nI_1 _) (by decide) rfl ?_
              refine x_goto (pc := 226) (tgt := 94) dX1_search_226 (by decide) ?_
              first
              | (have hn : sw V o e.2.length e.1 i = none := sw_n hc
                 exact X.keep [0, 1, 2, 3, 4, 5, 6] rfl (ih (i + 1) (by omega) _ Q _ _ _ (by rw [kd_n (kc_n hn).1]; exact hq.keep (gA _ (by omega)) (gA _ (by omega)) (gA _ (by omega)) (gA _ (by omega)) rfl) ((congrFun (gA hu (by omega)) 3).trans h5) (fR_n hno (kc_n hn).2) j2 (fun a p1 p2 => (gB a p1).trans (fj a p1 p2)) fq))
              | (have hn : sw V o e.2.length e.1 i = none := (sw_s hc).trans (sgo_n mg)
                 exact X.keep [0, 1, 2, 3, 4, 5, 6] rfl (ih (i + 1) (by omega) _ Q _ _ _ (by rw [kd_n (kc_n hn).1]; exact hq.keep (gA _ (by omega)) (gA _ (by omega)) (gA _ (by omega)) (gA _ (by omega)) rfl) ((congrFun (gA hu (by omega)) 3).trans h5) (fR_n hno (kc_n hn).2) j2 (fun a p1 p2 => (gB a p1).trans (fj a p1 p2)) fq))
              | (have hn : sw V o e.2.length e.1 i = none := (sw_s hc).trans (sgo_c hh)
                 exact X.keep [0, 1, 2, 3, 4, 5, 6] rfl (ih (i + 1) (by omega) _ Q _ _ _ (by rw [kd_n (kc_n hn).1]; exact hq4) h54 (fR_n hno (kc_n hn).2) j4 g5 fq))
              | (have hfd := fR_s hno (kc_seat hsw se) 5 hi
                 have wl : (e.2 ++ [c]).length = e.2.length + 1 := by simp
                 refine X.keep [0, 1, 2, 3, 4, 5, 6] rfl (l_inF hH (show i + 1 ≤ 5 by omega) (nn := e.2.length + 1) (by omega) ((up2_k (by decide)).trans up2_s) ?_)
                 exact K1 _ Q (e.2 ++ [c]) (wkL (V 8 0) q (kd V o b e i)).length hfd (by rw [wl]; omega) (by rw [wl]; exact (up2_k (by decide)).trans up2_s) (up2_s.trans (congrArg nI cdN_s.symm)) ((congrFun ((up2_row (by omega)).trans (up2_row (by omega))) 1).trans hq4.1) q781 (fun a p1 p2 => (up2_row (by omega)).trans ((up2_row (by omega)).trans (g5 a p1 p2))) fq)
              | (have n12 := kc_far hsw se kk
                 obtain ⟨n1, n2⟩ := n12
                 exact X.keep [0, 1, 2, 3, 4, 5, 6] rfl (ih (i + 1) (by omega) _ Q _ _ _ (by rw [kd_n n1]; exact hq4) h54 (fR_n hno n2) j4 g5 fq))
              | (have n12 := kc_kok hsw se kk
                 obtain ⟨n1, n2⟩ := n12
                 have el : (e.2 ++ [c]).length = e.2.length + 1 := by simp
                 have ik2 : ikp (V 8 0) (wkL (V 8 0) q (kd V o b e i)) ((sTen V o e.2.length e.1 c, c), e.2 ++ [c]) = false := by
                   unfold ikp
                   rw [el]
                   exact ik
                 have ha := hq4.add (s := (sTen V o e.2.length e.1 c, c)) (w := e.2 ++ [c]) (x := nI (cdN e.2 * 64 + c)) (congrArg nI cdN_s.symm)
                 rw [el] at ha
                 refine X.keep [0, 1, 2, 3, 4, 5, 6] rfl (ih (i + 1) (by omega) _ _ _ _ _ (by rw [kd_s n1, wkL_snoc, wkK_f ik2]; exact ha) ?_ (fR_n hno n2) (j4.keepHi hu htr (fun a p1 p2 p3 p4 => (up2_row p3).trans ((up2_row p4).trans ((up2_row p1).trans (up2_row p2)))) hrg) (fun a p1 p2 => ?_) (fun a p => (up2_row p).trans (fq a p)))
                 · exact (congrFun ((up2_row (by omega)).trans ((up2_row (by omega)).trans ((up2_row (by omega)).trans (up2_row (by omega))))) 3).trans h54
                 · exact (up2_row (by omega)).trans ((up2_row (by omega)).trans ((up2_row (by omega)).trans ((up2_row (by omega)).trans (g5 a p1 p2)))))
              | (have n12 := kc_kok hsw se kk
                 obtain ⟨n1, n2⟩ := n12
                 have el : (e.2 ++ [c]).length = e.2.length + 1 := by simp
                 have ik2 : ikp (V 8 0) (wkL (V 8 0) q (kd V o b e i)) ((sTen V o e.2.length e.1 c, c), e.2 ++ [c]) = true := by
                   unfold ikp
                   rw [el]
                   exact ik
                 exact X.keep [0, 1, 2, 3, 4, 5, 6] rfl (ih (i + 1) (by omega) _ Q _ _ _ (by rw [kd_s n1, wkL_snoc, wkK_t ik2]; exact hq4) h54 (fR_n hno n2) j4 g5 fq))
            · skip
              refine x_iinc (pc := 223) (v := nI (i + 1)) (lv' := [(0, .ref hu), (1, .ref tr), (2, .int (nI b)), (3, .int (nI (V 8 2))), (4, .int (nI k)), (5, .int (nI (e.2.length + 1))), (6, .int (nI (i + 1))), (7, .int (nI c)), (8, .int (nI (cdN e.2 * 64 + c)))]) dX1_search_223 rfl (nI_1 _) (by decide) rfl ?_
              refine x_goto (pc := 226) (tgt := 94) dX1_search_226 (by decide) ?_
              first
              | (have hn : sw V o e.2.length e.1 i = none := sw_n hc
                 exact X.keep [0, 1, 2, 3, 4, 5, 6] rfl (ih (i + 1) (by omega) _ Q _ _ _ (by rw [kd_n (kc_n hn).1]; exact hq.keep (gA _ (by omega)) (gA _ (by omega)) (gA _ (by omega)) (gA _ (by omega)) rfl) ((congrFun (gA hu (by omega)) 3).trans h5) (fR_n hno (kc_n hn).2) j2 (fun a p1 p2 => (gB a p1).trans (fj a p1 p2)) fq))
              | (have hn : sw V o e.2.length e.1 i = none := (sw_s hc).trans (sgo_n mg)
                 exact X.keep [0, 1, 2, 3, 4, 5, 6] rfl (ih (i + 1) (by omega) _ Q _ _ _ (by rw [kd_n (kc_n hn).1]; exact hq.keep (gA _ (by omega)) (gA _ (by omega)) (gA _ (by omega)) (gA _ (by omega)) rfl) ((congrFun (gA hu (by omega)) 3).trans h5) (fR_n hno (kc_n hn).2) j2 (fun a p1 p2 => (gB a p1).trans (fj a p1 p2)) fq))
              | (have hn : sw V o e.2.length e.1 i = none := (sw_s hc).trans (sgo_c hh)
                 exact X.keep [0, 1, 2, 3, 4, 5, 6] rfl (ih (i + 1) (by omega) _ Q _ _ _ (by rw [kd_n (kc_n hn).1]; exact hq4) h54 (fR_n hno (kc_n hn).2) j4 g5 fq))
              | (have hfd := fR_s hno (kc_seat hsw se) 5 hi
                 have wl : (e.2 ++ [c]).length = e.2.length + 1 := by simp
                 refine X.keep [0, 1, 2, 3, 4, 5, 6] rfl (l_inF hH (show i + 1 ≤ 5 by omega) (nn := e.2.length + 1) (by omega) ((up2_k (by decide)).trans up2_s) ?_)
                 exact K1 _ Q (e.2 ++ [c]) (wkL (V 8 0) q (kd V o b e i)).length hfd (by rw [wl]; omega) (by rw [wl]; exact (up2_k (by decide)).trans up2_s) (up2_s.trans (congrArg nI cdN_s.symm)) ((congrFun ((up2_row (by omega)).trans (up2_row (by omega))) 1).trans hq4.1) q781 (fun a p1 p2 => (up2_row (by omega)).trans ((up2_row (by omega)).trans (g5 a p1 p2))) fq)
              | (have n12 := kc_far hsw se kk
                 obtain ⟨n1, n2⟩ := n12
                 exact X.keep [0, 1, 2, 3, 4, 5, 6] rfl (ih (i + 1) (by omega) _ Q _ _ _ (by rw [kd_n n1]; exact hq4) h54 (fR_n hno n2) j4 g5 fq))
              | (have n12 := kc_kok hsw se kk
                 obtain ⟨n1, n2⟩ := n12
                 have el : (e.2 ++ [c]).length = e.2.length + 1 := by simp
                 have ik2 : ikp (V 8 0) (wkL (V 8 0) q (kd V o b e i)) ((sTen V o e.2.length e.1 c, c), e.2 ++ [c]) = false := by
                   unfold ikp
                   rw [el]
                   exact ik
                 have ha := hq4.add (s := (sTen V o e.2.length e.1 c, c)) (w := e.2 ++ [c]) (x := nI (cdN e.2 * 64 + c)) (congrArg nI cdN_s.symm)
                 rw [el] at ha
                 refine X.keep [0, 1, 2, 3, 4, 5, 6] rfl (ih (i + 1) (by omega) _ _ _ _ _ (by rw [kd_s n1, wkL_snoc, wkK_f ik2]; exact ha) ?_ (fR_n hno n2) (j4.keepHi hu htr (fun a p1 p2 p3 p4 => (up2_row p3).trans ((up2_row p4).trans ((up2_row p1).trans (up2_row p2)))) hrg) (fun a p1 p2 => ?_) (fun a p => (up2_row p).trans (fq a p)))
                 · exact (congrFun ((up2_row (by omega)).trans ((up2_row (by omega)).trans ((up2_row (by omega)).trans (up2_row (by omega))))) 3).trans h54
                 · exact (up2_row (by omega)).trans ((up2_row (by omega)).trans ((up2_row (by omega)).trans ((up2_row (by omega)).trans (g5 a p1 p2)))))
              | (have n12 := kc_kok hsw se kk
                 obtain ⟨n1, n2⟩ := n12
                 have el : (e.2 ++ [c]).length = e.2.length + 1 := by simp
                 have ik2 : ikp (V 8 0) (wkL (V 8 0) q (kd V o b e i)) ((sTen V o e.2.length e.1 c, c), e.2 ++ [c]) = true := by
                   unfold ikp
                   rw [el]
                   exact ik
                 exact X.keep [0, 1, 2, 3, 4, 5, 6] rfl (ih (i + 1) (by omega) _ Q _ _ _ (by rw [kd_s n1, wkL_snoc, wkK_t ik2]; exact hq4) h54 (fR_n hno n2) j4 g5 fq))
      · skip
        refine x_if_ne_f (pc := 153) (tgt := 159) dX1_search_153 (by decide) (by decide) ?_
        refine x_goto (pc := 156) (tgt := 223) dX1_search_156 (by decide) ?_
        refine x_iinc (pc := 223) (v := nI (i + 1)) (lv' := [(0, .ref hu), (1, .ref tr), (2, .int (nI b)), (3, .int (nI (V 8 2))), (4, .int (nI k)), (5, .int (nI (e.2.length + 1))), (6, .int (nI (i + 1))), (7, .int (nI c))]) dX1_search_223 rfl (nI_1 _) (by decide) rfl ?_
        refine x_goto (pc := 226) (tgt := 94) dX1_search_226 (by decide) ?_
        first
        | (have hn : sw V o e.2.length e.1 i = none := sw_n hc
           exact X.keep [0, 1, 2, 3, 4, 5, 6] rfl (ih (i + 1) (by omega) _ Q _ _ _ (by rw [kd_n (kc_n hn).1]; exact hq.keep (gA _ (by omega)) (gA _ (by omega)) (gA _ (by omega)) (gA _ (by omega)) rfl) ((congrFun (gA hu (by omega)) 3).trans h5) (fR_n hno (kc_n hn).2) j2 (fun a p1 p2 => (gB a p1).trans (fj a p1 p2)) fq))
        | (have hn : sw V o e.2.length e.1 i = none := (sw_s hc).trans (sgo_n mg)
           exact X.keep [0, 1, 2, 3, 4, 5, 6] rfl (ih (i + 1) (by omega) _ Q _ _ _ (by rw [kd_n (kc_n hn).1]; exact hq.keep (gA _ (by omega)) (gA _ (by omega)) (gA _ (by omega)) (gA _ (by omega)) rfl) ((congrFun (gA hu (by omega)) 3).trans h5) (fR_n hno (kc_n hn).2) j2 (fun a p1 p2 => (gB a p1).trans (fj a p1 p2)) fq))
        | (have hn : sw V o e.2.length e.1 i = none := (sw_s hc).trans (sgo_c hh)
           exact X.keep [0, 1, 2, 3, 4, 5, 6] rfl (ih (i + 1) (by omega) _ Q _ _ _ (by rw [kd_n (kc_n hn).1]; exact hq4) h54 (fR_n hno (kc_n hn).2) j4 g5 fq))
        | (have hfd := fR_s hno (kc_seat hsw se) 5 hi
           have wl : (e.2 ++ [c]).length = e.2.length + 1 := by simp
           refine X.keep [0, 1, 2, 3, 4, 5, 6] rfl (l_inF hH (show i + 1 ≤ 5 by omega) (nn := e.2.length + 1) (by omega) ((up2_k (by decide)).trans up2_s) ?_)
           exact K1 _ Q (e.2 ++ [c]) (wkL (V 8 0) q (kd V o b e i)).length hfd (by rw [wl]; omega) (by rw [wl]; exact (up2_k (by decide)).trans up2_s) (up2_s.trans (congrArg nI cdN_s.symm)) ((congrFun ((up2_row (by omega)).trans (up2_row (by omega))) 1).trans hq4.1) q781 (fun a p1 p2 => (up2_row (by omega)).trans ((up2_row (by omega)).trans (g5 a p1 p2))) fq)
        | (have n12 := kc_far hsw se kk
           obtain ⟨n1, n2⟩ := n12
           exact X.keep [0, 1, 2, 3, 4, 5, 6] rfl (ih (i + 1) (by omega) _ Q _ _ _ (by rw [kd_n n1]; exact hq4) h54 (fR_n hno n2) j4 g5 fq))
        | (have n12 := kc_kok hsw se kk
           obtain ⟨n1, n2⟩ := n12
           have el : (e.2 ++ [c]).length = e.2.length + 1 := by simp
           have ik2 : ikp (V 8 0) (wkL (V 8 0) q (kd V o b e i)) ((sTen V o e.2.length e.1 c, c), e.2 ++ [c]) = false := by
             unfold ikp
             rw [el]
             exact ik
           have ha := hq4.add (s := (sTen V o e.2.length e.1 c, c)) (w := e.2 ++ [c]) (x := nI (cdN e.2 * 64 + c)) (congrArg nI cdN_s.symm)
           rw [el] at ha
           refine X.keep [0, 1, 2, 3, 4, 5, 6] rfl (ih (i + 1) (by omega) _ _ _ _ _ (by rw [kd_s n1, wkL_snoc, wkK_f ik2]; exact ha) ?_ (fR_n hno n2) (j4.keepHi hu htr (fun a p1 p2 p3 p4 => (up2_row p3).trans ((up2_row p4).trans ((up2_row p1).trans (up2_row p2)))) hrg) (fun a p1 p2 => ?_) (fun a p => (up2_row p).trans (fq a p)))
           · exact (congrFun ((up2_row (by omega)).trans ((up2_row (by omega)).trans ((up2_row (by omega)).trans (up2_row (by omega))))) 3).trans h54
           · exact (up2_row (by omega)).trans ((up2_row (by omega)).trans ((up2_row (by omega)).trans ((up2_row (by omega)).trans (g5 a p1 p2)))))
        | (have n12 := kc_kok hsw se kk
           obtain ⟨n1, n2⟩ := n12
           have el : (e.2 ++ [c]).length = e.2.length + 1 := by simp
           have ik2 : ikp (V 8 0) (wkL (V 8 0) q (kd V o b e i)) ((sTen V o e.2.length e.1 c, c), e.2 ++ [c]) = true := by
             unfold ikp
             rw [el]
             exact ik
           exact X.keep [0, 1, 2, 3, 4, 5, 6] rfl (ih (i + 1) (by omega) _ Q _ _ _ (by rw [kd_s n1, wkL_snoc, wkK_t ik2]; exact hq4) h54 (fR_n hno n2) j4 g5 fq))
    · skip
      refine x_istore (pc := 139) (lv' := [(0, .ref hu), (1, .ref tr), (2, .int (nI b)), (3, .int (nI (V 8 2))), (4, .int (nI k)), (5, .int (nI (e.2.length + 1))), (6, .int (nI i)), (7, .int (-1))]) dX1_search_139 (by decide) rfl ?_
      refine x_iload (pc := 141) dX1_search_141 rfl ?_
      refine x_iconst (pc := 143) (v := -1) dX1_search_143 (by decide) ?_
      refine x_icmp_eq_t (pc := 144) (tgt := 223) dX1_search_144 (by decide) (by decide) ?_
      refine x_iinc (pc := 223) (v := nI (i + 1)) (lv' := [(0, .ref hu), (1, .ref tr), (2, .int (nI b)), (3, .int (nI (V 8 2))), (4, .int (nI k)), (5, .int (nI (e.2.length + 1))), (6, .int (nI (i + 1))), (7, .int (-1))]) dX1_search_223 rfl (nI_1 _) (by decide) rfl ?_
      refine x_goto (pc := 226) (tgt := 94) dX1_search_226 (by decide) ?_
      first
      | (have hn : sw V o e.2.length e.1 i = none := sw_n hc
         exact X.keep [0, 1, 2, 3, 4, 5, 6] rfl (ih (i + 1) (by omega) _ Q _ _ _ (by rw [kd_n (kc_n hn).1]; exact hq.keep (gA _ (by omega)) (gA _ (by omega)) (gA _ (by omega)) (gA _ (by omega)) rfl) ((congrFun (gA hu (by omega)) 3).trans h5) (fR_n hno (kc_n hn).2) j2 (fun a p1 p2 => (gB a p1).trans (fj a p1 p2)) fq))
      | (have hn : sw V o e.2.length e.1 i = none := (sw_s hc).trans (sgo_n mg)
         exact X.keep [0, 1, 2, 3, 4, 5, 6] rfl (ih (i + 1) (by omega) _ Q _ _ _ (by rw [kd_n (kc_n hn).1]; exact hq.keep (gA _ (by omega)) (gA _ (by omega)) (gA _ (by omega)) (gA _ (by omega)) rfl) ((congrFun (gA hu (by omega)) 3).trans h5) (fR_n hno (kc_n hn).2) j2 (fun a p1 p2 => (gB a p1).trans (fj a p1 p2)) fq))
      | (have hn : sw V o e.2.length e.1 i = none := (sw_s hc).trans (sgo_c hh)
         exact X.keep [0, 1, 2, 3, 4, 5, 6] rfl (ih (i + 1) (by omega) _ Q _ _ _ (by rw [kd_n (kc_n hn).1]; exact hq4) h54 (fR_n hno (kc_n hn).2) j4 g5 fq))
      | (have hfd := fR_s hno (kc_seat hsw se) 5 hi
         have wl : (e.2 ++ [c]).length = e.2.length + 1 := by simp
         refine X.keep [0, 1, 2, 3, 4, 5, 6] rfl (l_inF hH (show i + 1 ≤ 5 by omega) (nn := e.2.length + 1) (by omega) ((up2_k (by decide)).trans up2_s) ?_)
         exact K1 _ Q (e.2 ++ [c]) (wkL (V 8 0) q (kd V o b e i)).length hfd (by rw [wl]; omega) (by rw [wl]; exact (up2_k (by decide)).trans up2_s) (up2_s.trans (congrArg nI cdN_s.symm)) ((congrFun ((up2_row (by omega)).trans (up2_row (by omega))) 1).trans hq4.1) q781 (fun a p1 p2 => (up2_row (by omega)).trans ((up2_row (by omega)).trans (g5 a p1 p2))) fq)
      | (have n12 := kc_far hsw se kk
         obtain ⟨n1, n2⟩ := n12
         exact X.keep [0, 1, 2, 3, 4, 5, 6] rfl (ih (i + 1) (by omega) _ Q _ _ _ (by rw [kd_n n1]; exact hq4) h54 (fR_n hno n2) j4 g5 fq))
      | (have n12 := kc_kok hsw se kk
         obtain ⟨n1, n2⟩ := n12
         have el : (e.2 ++ [c]).length = e.2.length + 1 := by simp
         have ik2 : ikp (V 8 0) (wkL (V 8 0) q (kd V o b e i)) ((sTen V o e.2.length e.1 c, c), e.2 ++ [c]) = false := by
           unfold ikp
           rw [el]
           exact ik
         have ha := hq4.add (s := (sTen V o e.2.length e.1 c, c)) (w := e.2 ++ [c]) (x := nI (cdN e.2 * 64 + c)) (congrArg nI cdN_s.symm)
         rw [el] at ha
         refine X.keep [0, 1, 2, 3, 4, 5, 6] rfl (ih (i + 1) (by omega) _ _ _ _ _ (by rw [kd_s n1, wkL_snoc, wkK_f ik2]; exact ha) ?_ (fR_n hno n2) (j4.keepHi hu htr (fun a p1 p2 p3 p4 => (up2_row p3).trans ((up2_row p4).trans ((up2_row p1).trans (up2_row p2)))) hrg) (fun a p1 p2 => ?_) (fun a p => (up2_row p).trans (fq a p)))
         · exact (congrFun ((up2_row (by omega)).trans ((up2_row (by omega)).trans ((up2_row (by omega)).trans (up2_row (by omega))))) 3).trans h54
         · exact (up2_row (by omega)).trans ((up2_row (by omega)).trans ((up2_row (by omega)).trans ((up2_row (by omega)).trans (g5 a p1 p2)))))
      | (have n12 := kc_kok hsw se kk
         obtain ⟨n1, n2⟩ := n12
         have el : (e.2 ++ [c]).length = e.2.length + 1 := by simp
         have ik2 : ikp (V 8 0) (wkL (V 8 0) q (kd V o b e i)) ((sTen V o e.2.length e.1 c, c), e.2 ++ [c]) = true := by
           unfold ikp
           rw [el]
           exact ik
         exact X.keep [0, 1, 2, 3, 4, 5, 6] rfl (ih (i + 1) (by omega) _ Q _ _ _ (by rw [kd_s n1, wkL_snoc, wkK_t ik2]; exact hq4) h54 (fR_n hno n2) j4 g5 fq))

