/-! ===== seats: the class, whole ===== -/
/-- the stools below a cell, as a rising row -/
def LSC (V : xV) (l : Nat → Nat) (m c : Nat) : Prop := (∀ k, k < m → l k < c ∧ ∃ i, i < V 8 0 ∧ V 3 i = l k) ∧ (∀ i, i < V 8 0 → V 3 i < c → ∃ k, k < m ∧ l k = V 3 i) ∧ ∀ j k, j < k → k < m → l j < l k
theorem LSC_0 {V : xV} {l : Nat → Nat} : LSC V l 0 0 := ⟨fun k hk => absurd hk (by omega), fun i hi h => absurd h (by omega), fun j k _ hk => absurd hk (by omega)⟩
theorem LSC_n {V : xV} {l : Nat → Nat} {m c : Nat} (h : LSC V l m c) (hn : held (V 8 0) (V 3) c = false) : LSC V l m (c + 1) := by
  refine ⟨fun k hk => ⟨by have := (h.1 k hk).1; omega, (h.1 k hk).2⟩, fun i hi hc => ?_, h.2.2⟩
  rcases Nat.lt_succ_iff_lt_or_eq.mp hc with z | z
  · exact h.2.1 i hi z
  · have := held_t.mpr ⟨i, hi, z⟩
    rw [hn] at this
    cases this
theorem LSC_s {V : xV} {l : Nat → Nat} {m c : Nat} (h : LSC V l m c) (hh : held (V 8 0) (V 3) c = true) : LSC V (fun j => if j = m then c else l j) (m + 1) (c + 1) := by
  obtain ⟨i0, hi0, e0⟩ := held_t.mp hh
  refine ⟨fun k hk => ?_, fun i hi hc => ?_, fun j k hjk hk => ?_⟩
  · show (if k = m then c else l k) < c + 1 ∧ ∃ i, i < V 8 0 ∧ V 3 i = (if k = m then c else l k)
    by_cases z : k = m
    · rw [if_pos z]
      exact ⟨by omega, i0, hi0, e0⟩
    · rw [if_neg z]
      have := h.1 k (by omega)
      exact ⟨by omega, this.2⟩
  · rcases Nat.lt_succ_iff_lt_or_eq.mp hc with z | z
    · obtain ⟨k, hk, e⟩ := h.2.1 i hi z
      exact ⟨k, by omega, (if_neg (by omega)).trans e⟩
    · exact ⟨m, by omega, (if_pos rfl).trans z.symm⟩
  · show (if j = m then c else l j) < (if k = m then c else l k)
    rw [if_neg (show ¬ j = m by omega)]
    by_cases z : k = m
    · rw [if_pos z]
      exact (h.1 j (by omega)).1
    · rw [if_neg z]
      exact h.2.2 j k hjk (by omega)
theorem LSC.le {V : xV} {B m c : Nat} {l : Nat → Nat} (hv : VOK V B) (h : LSC V l m c) : m ≤ 6 := Nat.le_trans (LS_le hv (fun k hk => (h.1 k hk).2) h.2.2) hv.1
theorem LSC.all {V : xV} {B m : Nat} {l : Nat → Nat} (hv : VOK V B) (h : LSC V l m 36) : LSO V l m := by
  refine ⟨fun k hk => (h.1 k hk).2, fun i hi => h.2.1 i hi ?_, h.2.2⟩
  obtain ⟨v6, v12, v10, vb, _⟩ := hv
  exact (vb i hi).2.2.2.1

set_option maxHeartbeats 4000000 in
set_option maxRecDepth 100000 in
theorem l_seSrch {T : xT} {n : Nat} {sh : Nat → Nat × Nat} {I : xI} {R : xR} {L : xL} {P : xPost} {lr nw im tr rd hu se ac M : Nat} (hG : GEO sh R lr nw im tr rd hu se ac M) {V : xV} {B : Nat} (h : FSC I nw V) (hv : VOK V B) (hy : VSY V) (K : ∀ (J : xI) (acc : xB), BST V allS acc → SEA J se (V 8 0) acc → seP se I J → P (n, sh, 0, 0) J R L none)  : ∀ (w i : Nat), i + w = 36 → ∀ (J : xI) (l : Nat → Nat) (m : Nat), LSC V l m i → bRow J (se + 1) m l → J (se + 3) 1 = 0 → J se 3 = -5 → seP se I J → X T zX7_search 10 0 0 P 22 [(0, .ref se), (1, .ref nw), (2, .int (nI i))] [] (n, sh, 0, 0) (J) R L := by
  obtain ⟨v6, v12, v10, vb, vf, vw, vm, vta, vte, vod, vrg, vdi⟩ := id hv
  have e1 := hG.g_e_nw
  have e2 := hG.g_e_se
  intro w
  induction w with
  | zero =>
    intro i hw J l m hls hrow h3 h5 fj
    have hz : i = 36 := by omega
    refine x_iload_n (pc := 22) dX7_search_22 rfl rfl ?_
    refine x_bipush (pc := 23) (v := 36) dX7_search_23 (by decide) ?_
    refine x_icmpn_ge_t (pc := 25) (tgt := 50) (a := i) (b := 36) dX7_search_25 (by decide) (by omega) (by decide) (by omega) ?_
    rw [hz] at hls
    refine x_aload_n (pc := 50) dX7_search_50 rfl rfl ?_
    refine x_aload_n (pc := 51) dX7_search_51 rfl rfl ?_
    refine x_iconst (pc := 52) (v := 0) dX7_search_52 (by decide) ?_
    refine x_iconst (pc := 53) (v := 0) dX7_search_53 (by decide) ?_
    refine x_iconst (pc := 54) (v := 0) dX7_search_54 (by decide) ?_
    refine x_callS (pc := 55) (As := [.ref _, .ref _, .int _, .int _, .int _]) dX7_search_55 km_X7_seatFrom ks_X7_seatFrom kl_RX7_42 rfl (by decide) ⟨Nat.le_refl _, Nat.le_refl _⟩ rfl (Nat.le_of_ble_eq_true rfl) (Nat.le_of_ble_eq_true rfl) (c_seatFrom_0 (ch := fun _ => 0) (u := 0) (acc := none) hG (h.keep (fun a p1 p2 => fj a (by omega))) hv hy (LSC.all hv hls) (LSC.le hv hls) hrow (Nat.zero_le _) ⟨fun b hb => absurd hb (by omega), fun a b _ hb => absurd hb (by omega), fun a b _ hb => absurd hb (by omega)⟩ ⟨by decide, fun k hk => ⟨fun q => absurd q (by rw [bget_0 k (by have := LSC.le hv hls; omega)]; decide), fun ⟨j, hj, _⟩ => absurd hj (by omega)⟩⟩ h3 (fun j hj => absurd hj (by omega)) h5 (fun t _ q => absurd (show 0 < 0 from q) (by omega)) (fun J2 acc b2 s2 l2 m2 r2 f2 => ⟨rfl, rfl, ?_⟩))
    refine x_return (pc := 58) dX7_search_58 rfl ⟨Nat.le_refl _, Nat.le_refl _⟩ ?_
    exact K J2 acc (b2.congr (fun t _ => ⟨fun _ => trivial, fun _ => Nat.le_refl 0⟩)) s2 (fj.tr f2)
  | succ w ih =>
    intro i hw J l m hls hrow h3 h5 fj
    have hi : i < 36 := by omega
    refine x_iload_n (pc := 22) dX7_search_22 rfl rfl ?_
    refine x_bipush (pc := 23) (v := 36) dX7_search_23 (by decide) ?_
    refine x_icmpn_ge_f (pc := 25) (tgt := 50) (a := i) (b := 36) dX7_search_25 (by decide) (by omega) (by decide) (by omega) ?_
    refine x_aload_n (pc := 28) dX7_search_28 rfl rfl ?_
    refine x_iload_n (pc := 29) dX7_search_29 rfl rfl ?_
    refine x_callV (pc := 30) (As := [.int _]) dX7_search_30 km_X6_isStool kv_X6_isStool kl_RX7_33 hG.g_nw.1 rfl rfl (by decide) ⟨Nat.le_refl _, Nat.le_refl _⟩ rfl (Nat.le_of_ble_eq_true rfl) (Nat.le_of_ble_eq_true rfl) (c_isStool (x := i) hG.g_nw ((h.keep (fun a p1 p2 => fj a (by omega))).row 3 (by decide)) v6 (fun a ha => (vb a ha).2.2.2.1) (show i < 36 by omega) (fun hh => ⟨rfl, rfl, ?_⟩) (fun hf => ⟨rfl, rfl, ?_⟩))
    · skip
      refine x_if_eq_f (pc := 33) (tgt := 44) dX7_search_33 (by decide) (by decide) ?_
      refine x_aload_n (pc := 36) dX7_search_36 rfl rfl ?_
      refine x_getr (pc := 37) dX7_search_37 kf_RX7_14 hG.g_se rfl hG.g_se0 ?_
      refine x_iload_n (pc := 40) dX7_search_40 rfl rfl ?_
      refine x_callV (pc := 41) (As := [.int _]) dX7_search_41 km_X5_add kv_X5_add kl_RX7_39 hG.g_stools.1 rfl rfl (by decide) ⟨Nat.le_refl _, Nat.le_refl _⟩ rfl (Nat.le_of_ble_eq_true rfl) (Nat.le_of_ble_eq_true rfl) (c_add (x := nI i) (m := m) hG.g_stools hrow.1 (by have := LSC.le hv (LSC_s hls hh); omega) (⟨rfl, rfl, ?_⟩))
      refine x_iinc (pc := 44) (v := nI (i + 1)) (lv' := [(0, .ref se), (1, .ref nw), (2, .int (nI (i + 1)))]) dX7_search_44 rfl (nI_1 _) (by decide) rfl ?_
      refine x_goto (pc := 47) (tgt := 22) dX7_search_47 (by decide) ?_
      first
      | exact ih (i + 1) (by omega) J l m (LSC_n hls hf) hrow h3 h5 fj
      | exact ih (i + 1) (by omega) _ _ (m + 1) (LSC_s hls hh) ⟨up2_s, fun j hj => by
          rw [show se + 1 + 1 = se + 2 from rfl, up2_row (show se + 2 ≠ se + 1 by omega)]
          by_cases z : j = m
          · rw [z, up2_s]; exact congrArg nI (if_pos rfl).symm
          · rw [up2_k z]; exact (hrow.2 j (by omega)).trans (congrArg nI (if_neg z).symm)⟩ ((congrFun ((up2_row (by omega)).trans (up2_row (by omega))) 1).trans h3) ((congrFun ((up2_row (by omega)).trans (up2_row (by omega))) 3).trans h5) (fun a p => (up2_row (by omega)).trans ((up2_row (by omega)).trans (fj a p)))
    · skip
      refine x_if_eq_t (pc := 33) (tgt := 44) dX7_search_33 (by decide) (by decide) ?_
      refine x_iinc (pc := 44) (v := nI (i + 1)) (lv' := [(0, .ref se), (1, .ref nw), (2, .int (nI (i + 1)))]) dX7_search_44 rfl (nI_1 _) (by decide) rfl ?_
      refine x_goto (pc := 47) (tgt := 22) dX7_search_47 (by decide) ?_
      first
      | exact ih (i + 1) (by omega) J l m (LSC_n hls hf) hrow h3 h5 fj
      | exact ih (i + 1) (by omega) _ _ (m + 1) (LSC_s hls hh) ⟨up2_s, fun j hj => by
          rw [show se + 1 + 1 = se + 2 from rfl, up2_row (show se + 2 ≠ se + 1 by omega)]
          by_cases z : j = m
          · rw [z, up2_s]; exact congrArg nI (if_pos rfl).symm
          · rw [up2_k z]; exact (hrow.2 j (by omega)).trans (congrArg nI (if_neg z).symm)⟩ ((congrFun ((up2_row (by omega)).trans (up2_row (by omega))) 1).trans h3) ((congrFun ((up2_row (by omega)).trans (up2_row (by omega))) 3).trans h5) (fun a p => (up2_row (by omega)).trans ((up2_row (by omega)).trans (fj a p)))

set_option maxHeartbeats 4000000 in
set_option maxRecDepth 100000 in
theorem c_seSearch {T : xT} {n : Nat} {sh : Nat → Nat × Nat} {I : xI} {R : xR} {L : xL} {P : xPost} {lr nw im tr rd hu se ac M : Nat} (hG : GEO sh R lr nw im tr rd hu se ac M) {V : xV} {B : Nat} (h : FSC I nw V) (hv : VOK V B) (hy : VSY V) (K : ∀ (J : xI) (acc : xB), BST V allS acc → SEA J se (V 8 0) acc → seP se I J → P (n, sh, 0, 0) J R L none)  : XM T zX7_search 10 [.ref se, .ref nw] n sh I R L P := by
  have e1 := hG.g_e_nw
  have e2 := hG.g_e_se
  refine x_aload_n (pc := 0) dX7_search_0 rfl rfl ?_
  refine x_bipush (pc := 1) (v := -5) dX7_search_1 (by decide) ?_
  refine x_put (pc := 3) dX7_search_3 kf_RX7_26 hG.g_se rfl (Or.inl kb_7_3) ?_
  refine x_aload_n (pc := 6) dX7_search_6 rfl rfl ?_
  refine x_getr (pc := 7) dX7_search_7 kf_RX7_14 hG.g_se rfl hG.g_se0 ?_
  refine x_callV (pc := 10) (As := []) dX7_search_10 km_X5_clear kv_X5_clear kl_RX7_30 hG.g_stools.1 rfl rfl (by decide) ⟨Nat.le_refl _, Nat.le_refl _⟩ rfl (Nat.le_of_ble_eq_true rfl) (Nat.le_of_ble_eq_true rfl) (c_clear hG.g_stools (⟨rfl, rfl, ?_⟩))
  refine x_aload_n (pc := 13) dX7_search_13 rfl rfl ?_
  refine x_getr (pc := 14) dX7_search_14 kf_RX7_20 hG.g_se rfl hG.g_se1 ?_
  refine x_callV (pc := 17) (As := []) dX7_search_17 km_X5_clear kv_X5_clear kl_RX7_30 hG.g_chosen.1 rfl rfl (by decide) ⟨Nat.le_refl _, Nat.le_refl _⟩ rfl (Nat.le_of_ble_eq_true rfl) (Nat.le_of_ble_eq_true rfl) (c_clear hG.g_chosen (⟨rfl, rfl, ?_⟩))
  refine x_iconst (pc := 20) (v := 0) dX7_search_20 (by decide) ?_
  refine x_istore_n (pc := 21) (lv' := [(0, .ref se), (1, .ref nw), (2, .int 0)]) dX7_search_21 rfl (by decide) rfl ?_
  refine l_seSrch hG h hv hy K 36 0 (by omega) _ (fun _ => 0) 0 LSC_0 ⟨?_, fun j hj => absurd hj (by omega)⟩ up2_s ?_ (fun a p => (up2_row (by omega)).trans ((up2_row (by omega)).trans (up2_row (by omega))))
  · exact (congrFun (up2_row (by omega)) 1).trans up2_s
  · exact (congrFun ((up2_row (by omega)).trans (up2_row (by omega))) 3).trans up2_s

set_option maxHeartbeats 4000000 in
set_option maxRecDepth 100000 in
theorem l_seE11 {T : xT} {n : Nat} {sh : Nat → Nat × Nat} {I : xI} {R : xR} {L : xL} {P : xPost} {lr nw im tr rd hu se ac M : Nat} (hG : GEO sh R lr nw im tr rd hu se ac M) {V : xV} {B : Nat} (hv : VOK V B) {r : Nat × (Nat → Nat)} {k : Nat} (hs : SEA I se (V 8 0) (some r)) (hr : r.1 < 1000) (K : P (n, sh, 0, 0) I R L (some (.int (nI r.1))))  :  X T zX9_seats 11 0 0 P 31 [(0, .ref lr), (1, .int (-1))] [] (n, sh, 0, 0) (I) R L := by
  obtain ⟨v6, v12, v10, vb, vf, vw, vm, vta, vte, vod, vrg, vdi⟩ := id hv
  refine x_aload_n (pc := 31) dX9_seats_31 rfl rfl ?_
  refine x_getr (pc := 32) dX9_seats_32 kf_RX9_55 hG.g_x rfl hG.g_f8 ?_
  refine x_get (pc := 35) dX9_seats_35 kf_RX9_228 hG.g_se rfl ?_
  rw [hs.1]
  refine x_bipush (pc := 38) (v := -5) dX9_seats_38 (by decide) ?_
  refine x_icmp_ne_t (pc := 40) (tgt := 46) dX9_seats_40 (by decide) (neg5 (by omega)) ?_
  refine x_iload_n (pc := 46) dX9_seats_46 rfl rfl ?_
  refine x_iconst (pc := 47) (v := -1) dX9_seats_47 (by decide) ?_
  refine x_icmp_ne_f (pc := 48) (tgt := 61) dX9_seats_48 (by decide) (by decide) ?_
  refine x_aload_n (pc := 51) dX9_seats_51 rfl rfl ?_
  refine x_getr (pc := 52) dX9_seats_52 kf_RX9_55 hG.g_x rfl hG.g_f8 ?_
  refine x_get (pc := 55) dX9_seats_55 kf_RX9_228 hG.g_se rfl ?_
  rw [hs.1]
  refine x_goto (pc := 58) (tgt := 72) dX9_seats_58 (by decide) ?_
  refine x_ireturn (pc := 72) dX9_seats_72 ⟨_, rfl, rfl⟩ ⟨Nat.le_refl _, Nat.le_refl _⟩ ?_
  exact K

set_option maxHeartbeats 4000000 in
set_option maxRecDepth 100000 in
theorem l_seE10 {T : xT} {n : Nat} {sh : Nat → Nat × Nat} {I : xI} {R : xR} {L : xL} {P : xPost} {lr nw im tr rd hu se ac M : Nat} (hG : GEO sh R lr nw im tr rd hu se ac M) {V : xV} {B : Nat} (hv : VOK V B) {r : Nat × (Nat → Nat)} {k : Nat} (hs : I se 3 = -5) (K : P (n, sh, 0, 0) I R L (some (.int ((-5)))))  :  X T zX9_seats 11 0 0 P 31 [(0, .ref lr), (1, .int (-1))] [] (n, sh, 0, 0) (I) R L := by
  obtain ⟨v6, v12, v10, vb, vf, vw, vm, vta, vte, vod, vrg, vdi⟩ := id hv
  refine x_aload_n (pc := 31) dX9_seats_31 rfl rfl ?_
  refine x_getr (pc := 32) dX9_seats_32 kf_RX9_55 hG.g_x rfl hG.g_f8 ?_
  refine x_get (pc := 35) dX9_seats_35 kf_RX9_228 hG.g_se rfl ?_
  rw [hs]
  refine x_bipush (pc := 38) (v := -5) dX9_seats_38 (by decide) ?_
  refine x_icmp_ne_f (pc := 40) (tgt := 46) dX9_seats_40 (by decide) (by decide) ?_
  refine x_bipush (pc := 43) (v := -5) dX9_seats_43 (by decide) ?_
  refine x_ireturn (pc := 45) dX9_seats_45 ⟨_, rfl, rfl⟩ ⟨Nat.le_refl _, Nat.le_refl _⟩ ?_
  exact K

set_option maxHeartbeats 4000000 in
set_option maxRecDepth 100000 in
theorem l_seE01 {T : xT} {n : Nat} {sh : Nat → Nat × Nat} {I : xI} {R : xR} {L : xL} {P : xPost} {lr nw im tr rd hu se ac M : Nat} (hG : GEO sh R lr nw im tr rd hu se ac M) {V : xV} {B : Nat} (hv : VOK V B) {r : Nat × (Nat → Nat)} {k : Nat} (hk : k < V 8 0) (hs : SEA I se (V 8 0) (some r)) (hr : r.1 < 1000) (K : P (n, sh, 0, 0) I R L (some (.int (nI (r.2 k)))))  :  X T zX9_seats 11 0 0 P 31 [(0, .ref lr), (1, .int (nI k))] [] (n, sh, 0, 0) (I) R L := by
  obtain ⟨v6, v12, v10, vb, vf, vw, vm, vta, vte, vod, vrg, vdi⟩ := id hv
  refine x_aload_n (pc := 31) dX9_seats_31 rfl rfl ?_
  refine x_getr (pc := 32) dX9_seats_32 kf_RX9_55 hG.g_x rfl hG.g_f8 ?_
  refine x_get (pc := 35) dX9_seats_35 kf_RX9_228 hG.g_se rfl ?_
  rw [hs.1]
  refine x_bipush (pc := 38) (v := -5) dX9_seats_38 (by decide) ?_
  refine x_icmp_ne_t (pc := 40) (tgt := 46) dX9_seats_40 (by decide) (neg5 (by omega)) ?_
  refine x_iload_n (pc := 46) dX9_seats_46 rfl rfl ?_
  refine x_iconst (pc := 47) (v := -1) dX9_seats_47 (by decide) ?_
  refine x_icmp_ne_t (pc := 48) (tgt := 61) dX9_seats_48 (by decide) (nI_nem (by omega)) ?_
  refine x_aload_n (pc := 61) dX9_seats_61 rfl rfl ?_
  refine x_getr (pc := 62) dX9_seats_62 kf_RX9_55 hG.g_x rfl hG.g_f8 ?_
  refine x_getr (pc := 65) dX9_seats_65 kf_RX9_231 hG.g_se rfl hG.g_se2 ?_
  refine x_iload_n (pc := 68) dX9_seats_68 rfl rfl ?_
  refine x_callV (pc := 69) (As := [.int _]) dX9_seats_69 km_X5_at kv_X5_at kl_RX9_109 hG.g_best.1 rfl rfl (by decide) ⟨Nat.le_refl _, Nat.le_refl _⟩ rfl (Nat.le_of_ble_eq_true rfl) (Nat.le_of_ble_eq_true rfl) (c_at hG.g_best (⟨rfl, rfl, ?_⟩))
  rw [hs.2.1, rAt_in (m := V 8 0) hk v6 (by decide), show I (se + 6) k = nI (r.2 k) from hs.2.2 k hk]
  refine x_ireturn (pc := 72) dX9_seats_72 ⟨_, rfl, rfl⟩ ⟨Nat.le_refl _, Nat.le_refl _⟩ ?_
  exact K

set_option maxHeartbeats 4000000 in
set_option maxRecDepth 100000 in
theorem l_seE00 {T : xT} {n : Nat} {sh : Nat → Nat × Nat} {I : xI} {R : xR} {L : xL} {P : xPost} {lr nw im tr rd hu se ac M : Nat} (hG : GEO sh R lr nw im tr rd hu se ac M) {V : xV} {B : Nat} (hv : VOK V B) {r : Nat × (Nat → Nat)} {k : Nat} (hk : k < V 8 0) (hs : I se 3 = -5) (K : P (n, sh, 0, 0) I R L (some (.int ((-5)))))  :  X T zX9_seats 11 0 0 P 31 [(0, .ref lr), (1, .int (nI k))] [] (n, sh, 0, 0) (I) R L := by
  obtain ⟨v6, v12, v10, vb, vf, vw, vm, vta, vte, vod, vrg, vdi⟩ := id hv
  refine x_aload_n (pc := 31) dX9_seats_31 rfl rfl ?_
  refine x_getr (pc := 32) dX9_seats_32 kf_RX9_55 hG.g_x rfl hG.g_f8 ?_
  refine x_get (pc := 35) dX9_seats_35 kf_RX9_228 hG.g_se rfl ?_
  rw [hs]
  refine x_bipush (pc := 38) (v := -5) dX9_seats_38 (by decide) ?_
  refine x_icmp_ne_f (pc := 40) (tgt := 46) dX9_seats_40 (by decide) (by decide) ?_
  refine x_bipush (pc := 43) (v := -5) dX9_seats_43 (by decide) ?_
  refine x_ireturn (pc := 45) dX9_seats_45 ⟨_, rfl, rfl⟩ ⟨Nat.le_refl _, Nat.le_refl _⟩ ?_
  exact K

set_option maxHeartbeats 4000000 in
set_option maxRecDepth 100000 in
theorem c_seatsIt {T : xT} {n : Nat} {sh : Nat → Nat × Nat} {I : xI} {R : xR} {L : xL} {P : xPost} {lr nw im tr rd hu se ac M : Nat} (hG : GEO sh R lr nw im tr rd hu se ac M) {V : xV} {B : Nat} (h : FSC I nw V) (hv : VOK V B) (hy : VSY V) {x : Int32} (K : ∀ J : xI, seP se I J → P (n, sh, 0, 0) J R L (some (.int (spSeats V x))))  : XM T zX9_seats 11 [.ref lr, .int x] n sh I R L P := by
  obtain ⟨v6, v12, v10, vb, vf, vw, vm, vta, vte, vod, vrg, vdi⟩ := id hv
  refine x_iload_n (pc := 0) dX9_seats_0 rfl rfl ?_
  refine x_iconst (pc := 1) (v := -1) dX9_seats_1 (by decide) ?_
  refine x_icmp_eq (pc := 2) (tgt := 20) dX9_seats_2 (by decide) (fun c2 => ?_) (fun c2 => ?_)
  · skip
    refine x_aload_n (pc := 20) dX9_seats_20 rfl rfl ?_
    refine x_getr (pc := 21) dX9_seats_21 kf_RX9_55 hG.g_x rfl hG.g_f8 ?_
    refine x_aload_n (pc := 24) dX9_seats_24 rfl rfl ?_
    refine x_getr (pc := 25) dX9_seats_25 kf_RX9_12 hG.g_x rfl hG.g_f0 ?_
    refine x_callV (pc := 28) (As := [.ref _]) dX9_seats_28 km_X7_search kv_X7_search kl_RX9_226 hG.g_se rfl rfl (by decide) ⟨Nat.le_refl _, Nat.le_refl _⟩ rfl (Nat.le_of_ble_eq_true rfl) (Nat.le_of_ble_eq_true rfl) (c_seSearch hG h hv hy (fun J acc b2 s2 f2 => ⟨rfl, rfl, ?_⟩))
    have h9 := K J f2
    rw [spSe_s hv b2 (Or.inl c2)] at h9
    subst c2
    have lt := SEA.lt hv b2
    cases acc with
    | none => exact l_seE10 (r := (0, fun _ => 0)) (k := 0) hG hv s2 h9
    | some r =>
      have e9 : ansS (some r) (-1) = nI r.1 := (show (if (-1 : Int32) = -1 then nI r.1 else nI (r.2 (-1 : Int32).toNatClampNeg)) = nI r.1 from if_pos rfl)
      rw [e9] at h9
      exact l_seE11 (r := r) (k := 0) hG hv s2 (lt r rfl) h9
  · skip
    refine x_aload_n (pc := 5) dX9_seats_5 rfl rfl ?_
    refine x_getr (pc := 6) dX9_seats_6 kf_RX9_12 hG.g_x rfl hG.g_f0 ?_
    refine x_iload_n (pc := 9) dX9_seats_9 rfl rfl ?_
    refine x_callV (pc := 10) (As := [.int _]) dX9_seats_10 km_X6_isBeast kv_X6_isBeast kl_RX9_102 hG.g_nw.1 rfl rfl (by decide) ⟨Nat.le_refl _, Nat.le_refl _⟩ rfl (Nat.le_of_ble_eq_true rfl) (Nat.le_of_ble_eq_true rfl) (c_isBeast hG.g_nw (h.row 2 (by decide)) v6 (fun k hk ek => ⟨rfl, rfl, ?_⟩) (fun h1 => ⟨rfl, rfl, ?_⟩))
    · skip
      have hk : k < V 8 0 := hk
      subst ek
      refine x_if_ne_t (pc := 13) (tgt := 20) dX9_seats_13 (by decide) (by decide) ?_
      refine x_aload_n (pc := 20) dX9_seats_20 rfl rfl ?_
      refine x_getr (pc := 21) dX9_seats_21 kf_RX9_55 hG.g_x rfl hG.g_f8 ?_
      refine x_aload_n (pc := 24) dX9_seats_24 rfl rfl ?_
      refine x_getr (pc := 25) dX9_seats_25 kf_RX9_12 hG.g_x rfl hG.g_f0 ?_
      refine x_callV (pc := 28) (As := [.ref _]) dX9_seats_28 km_X7_search kv_X7_search kl_RX9_226 hG.g_se rfl rfl (by decide) ⟨Nat.le_refl _, Nat.le_refl _⟩ rfl (Nat.le_of_ble_eq_true rfl) (Nat.le_of_ble_eq_true rfl) (c_seSearch hG h hv hy (fun J acc b2 s2 f2 => ⟨rfl, rfl, ?_⟩))
      have h9 := K J f2
      rw [spSe_s hv b2 (Or.inr ⟨k, hk, rfl⟩)] at h9
      have lt := SEA.lt hv b2
      cases acc with
      | none => exact l_seE00 (r := (0, fun _ => 0)) hG hv hk s2 h9
      | some r =>
        have e9 : ansS (some r) (nI k) = nI (r.2 k) := (if_neg (nI_nem (by omega))).trans (by rw [nI_clamp (by omega)])
        rw [e9] at h9
        exact l_seE01 (r := r) hG hv hk s2 (lt r rfl) h9
    · skip
      refine x_if_ne_f (pc := 13) (tgt := 20) dX9_seats_13 (by decide) (by decide) ?_
      refine x_sipush (pc := 16) (v := -1001) dX9_seats_16 (by decide) ?_
      refine x_ireturn (pc := 19) dX9_seats_19 ⟨_, rfl, rfl⟩ ⟨Nat.le_refl _, Nat.le_refl _⟩ ?_
      have h9 := K I (fun _ _ => rfl)
      rw [spSe_n c2 h1] at h9
      exact h9

