/-! ===== the reader: bytes, numbers, parts ===== -/
def nxX (t : xX) (p : Nat) : Nat := if p < t.1 then t.2 p else 256
def nC (c : Nat) : Int32 := if c < 256 then nI c else -1
theorem nC_eq {a c : Nat} (hc : c < 256) : nC a = nI c ↔ a = c := by
  unfold nC
  by_cases h : a < 256
  · rw [if_pos h]
    constructor
    · intro q
      have q1 := congrArg Int32.toInt q
      rw [nI_toInt (by omega), nI_toInt (by omega)] at q1
      omega
    · intro q
      rw [q]
  · rw [if_neg h]
    constructor
    · intro q
      have q1 := congrArg Int32.toInt q
      rw [nI_toInt (by omega)] at q1
      have q1 : (-1 : Int) = c := q1
      omega
    · intro q
      omega
theorem nC_at {I : xI} {rd p : Nat} {t : xX} (ht : bRow I (rd + 1) t.1 t.2) (hx : XOK t) (hp : p ≤ 100) : rAt (I (rd + 1) 1) 100 (I (rd + 2)) (nI p) = nC (nxX t p) := by
  rw [ht.1]
  unfold nxX nC
  by_cases h : p < t.1
  · rw [rAt_in h hx.1 (by decide), if_pos h, if_pos (hx.2 p h)]
    exact ht.2 p h
  · rw [rAt_out (by omega) (by omega), if_neg h, if_neg (by decide)]
theorem nxX_lt {t : xX} {p c : Nat} (h : nxX t p = c) (hc : c < 256) : p < t.1 := by
  unfold nxX at h
  by_cases z : p < t.1
  · exact z
  · rw [if_neg z] at h
    omega
/-- the parts of a RING, for the class -/
def DR (I : xI) (c : Nat) (l : List (Nat × Nat × Nat)) : Prop := l.length ≤ 100 ∧ I (c + 1) 1 = nI l.length ∧ I (c + 3) 1 = nI l.length ∧ I (c + 5) 1 = nI l.length ∧ ∀ i x, l[i]? = some x → I (c + 2) i = nI x.1 ∧ I (c + 4) i = nI x.2.1 ∧ I (c + 6) i = nI x.2.2
def adL (l : List (Nat × Nat × Nat)) (x : Nat × Nat × Nat) : List (Nat × Nat × Nat) := if l.length < 100 then l ++ [x] else l
def rgP (c : Nat) (I J : xI) : Prop := ∀ a, (a ≤ c ∨ c + 7 ≤ a) → J a = I a
theorem rgP.rf {c : Nat} {I : xI} : rgP c I I := fun _ _ => rfl
theorem rgP.tr {c : Nat} {I J J' : xI} (h : rgP c I J) (h' : rgP c J J') : rgP c I J' := fun a p => (h' a p).trans (h a p)
theorem DR.keep {I J : xI} {c : Nat} {l : List (Nat × Nat × Nat)} (h : DR I c l) (f : ∀ a, c < a → a < c + 7 → J a = I a) : DR J c l := by
  obtain ⟨h1, h2, h3, h4, h5⟩ := h
  exact ⟨h1, (congrFun (f _ (by omega) (by omega)) 1).trans h2, (congrFun (f _ (by omega) (by omega)) 1).trans h3, (congrFun (f _ (by omega) (by omega)) 1).trans h4, fun i x hi => ⟨(congrFun (f _ (by omega) (by omega)) i).trans (h5 i x hi).1, (congrFun (f _ (by omega) (by omega)) i).trans (h5 i x hi).2.1, (congrFun (f _ (by omega) (by omega)) i).trans (h5 i x hi).2.2⟩⟩

theorem DR.add {I : xI} {c : Nat} {l : List (Nat × Nat × Nat)} {x : Nat × Nat × Nat} {x1 x2 x3 : Int32} (h : DR I c l) (hl : l.length < 100) (e1 : x1 = nI x.1) (e2 : x2 = nI x.2.1) (e3 : x3 = nI x.2.2) : DR (up2 (up2 (up2 (up2 (up2 (up2 I (c + 2) l.length x1) (c + 1) 1 (nI (l.length + 1))) (c + 4) l.length x2) (c + 3) 1 (nI (l.length + 1))) (c + 6) l.length x3) (c + 5) 1 (nI (l.length + 1))) c (l ++ [x]) := by
  obtain ⟨h1, h2, h3, h4, h5⟩ := h
  have hlen : (l ++ [x]).length = l.length + 1 := by rw [List.length_append]; rfl
  rw [DR, hlen]
  refine ⟨by omega, (congrFun ((up2_row (by omega)).trans ((up2_row (by omega)).trans ((up2_row (by omega)).trans (up2_row (by omega))))) _).trans up2_s, (congrFun ((up2_row (by omega)).trans (up2_row (by omega))) _).trans up2_s, up2_s, fun i y hi => ?_⟩
  by_cases hne : i = l.length
  · subst hne
    rw [List.getElem?_append_right (Nat.le_refl _), Nat.sub_self] at hi
    cases hi
    subst e1 e2 e3
    exact ⟨(congrFun ((up2_row (by omega)).trans ((up2_row (by omega)).trans ((up2_row (by omega)).trans ((up2_row (by omega)).trans (up2_row (by omega)))))) _).trans up2_s, (congrFun ((up2_row (by omega)).trans ((up2_row (by omega)).trans (up2_row (by omega)))) _).trans up2_s, (congrFun (up2_row (by omega)) _).trans up2_s⟩
  · have hlt : i < l.length := by
      have h9 := (List.getElem?_eq_some_iff.mp hi).1
      rw [hlen] at h9
      omega
    rw [List.getElem?_append_left hlt] at hi
    obtain ⟨g1, g2, g3⟩ := h5 i y hi
    exact ⟨((congrFun ((up2_row (by omega)).trans ((up2_row (by omega)).trans ((up2_row (by omega)).trans ((up2_row (by omega)).trans (up2_row (by omega)))))) i).trans (up2_k hne)).trans g1, (((congrFun ((up2_row (by omega)).trans ((up2_row (by omega)).trans (up2_row (by omega)))) i).trans (up2_k hne)).trans (congrFun ((up2_row (by omega)).trans (up2_row (by omega))) i)).trans g2, (((congrFun (up2_row (by omega)) i).trans (up2_k hne)).trans (congrFun ((up2_row (by omega)).trans ((up2_row (by omega)).trans ((up2_row (by omega)).trans (up2_row (by omega))))) i)).trans g3⟩

set_option maxHeartbeats 4000000 in
set_option maxRecDepth 100000 in
theorem c_rgAdd1 {T : xT} {n : Nat} {sh : Nat → Nat × Nat} {I : xI} {R : xR} {L : xL} {P : xPost} {c : Nat} (hr : xRing sh R c) {l : List (Nat × Nat × Nat)} {p s k : Nat} (h : DR I c l) (hl : l.length < 100) (K : ∀ J : xI, DR J c (l ++ [(p, s, k)]) → rgP c I J → P (n, sh, 0, 0) J R L none) : XM T zX4_add 1 [.ref c, .int (nI p), .int (nI s), .int (nI k)] n sh I R L P := by
  refine x_aload_n (pc := 0) dX4_add_0 rfl rfl ?_
  refine x_getr (pc := 1) dX4_add_1 kf_RX4_14 hr.1 rfl hr.2.1 ?_
  refine x_iload_n (pc := 4) dX4_add_4 rfl rfl ?_
  refine x_callV (pc := 5) (As := [.int _]) dX4_add_5 km_X5_add kv_X5_add kl_RX4_33 hr.2.2.2.2.1.1 rfl rfl (by decide) ⟨Nat.le_refl _, Nat.le_refl _⟩ rfl (Nat.le_of_ble_eq_true rfl) (Nat.le_of_ble_eq_true rfl) (c_add (m := l.length) hr.2.2.2.2.1 h.2.1 hl (⟨rfl, rfl, ?_⟩))
  refine x_aload_n (pc := 8) dX4_add_8 rfl rfl ?_
  refine x_getr (pc := 9) dX4_add_9 kf_RX4_20 hr.1 rfl hr.2.2.1 ?_
  refine x_iload_n (pc := 12) dX4_add_12 rfl rfl ?_
  refine x_callV (pc := 13) (As := [.int _]) dX4_add_13 km_X5_add kv_X5_add kl_RX4_33 hr.2.2.2.2.2.1.1 rfl rfl (by decide) ⟨Nat.le_refl _, Nat.le_refl _⟩ rfl (Nat.le_of_ble_eq_true rfl) (Nat.le_of_ble_eq_true rfl) (c_add (m := l.length) hr.2.2.2.2.2.1 ((congrFun ((up2_row (by omega)).trans (up2_row (by omega))) 1).trans h.2.2.1) hl (⟨rfl, rfl, ?_⟩))
  refine x_aload_n (pc := 16) dX4_add_16 rfl rfl ?_
  refine x_getr (pc := 17) dX4_add_17 kf_RX4_23 hr.1 rfl hr.2.2.2.1 ?_
  refine x_iload_n (pc := 20) dX4_add_20 rfl rfl ?_
  refine x_callV (pc := 21) (As := [.int _]) dX4_add_21 km_X5_add kv_X5_add kl_RX4_33 hr.2.2.2.2.2.2.1 rfl rfl (by decide) ⟨Nat.le_refl _, Nat.le_refl _⟩ rfl (Nat.le_of_ble_eq_true rfl) (Nat.le_of_ble_eq_true rfl) (c_add (m := l.length) hr.2.2.2.2.2.2 ((congrFun ((up2_row (by omega)).trans ((up2_row (by omega)).trans ((up2_row (by omega)).trans (up2_row (by omega))))) 1).trans h.2.2.2.1) hl (⟨rfl, rfl, ?_⟩))
  refine x_return (pc := 24) dX4_add_24 rfl ⟨Nat.le_refl _, Nat.le_refl _⟩ ?_
  exact K _ (h.add hl rfl rfl rfl) (fun a q => (up2_row (by omega)).trans ((up2_row (by omega)).trans ((up2_row (by omega)).trans ((up2_row (by omega)).trans ((up2_row (by omega)).trans (up2_row (by omega)))))))

set_option maxHeartbeats 4000000 in
set_option maxRecDepth 100000 in
theorem c_rgAdd0 {T : xT} {n : Nat} {sh : Nat → Nat × Nat} {I : xI} {R : xR} {L : xL} {P : xPost} {c : Nat} (hr : xRing sh R c) {l : List (Nat × Nat × Nat)} {p s k : Nat} (h : DR I c l) (hl : 100 ≤ l.length) (K : P (n, sh, 0, 0) I R L none) : XM T zX4_add 1 [.ref c, .int (nI p), .int (nI s), .int (nI k)] n sh I R L P := by
  have h100 := h.1
  refine x_aload_n (pc := 0) dX4_add_0 rfl rfl ?_
  refine x_getr (pc := 1) dX4_add_1 kf_RX4_14 hr.1 rfl hr.2.1 ?_
  refine x_iload_n (pc := 4) dX4_add_4 rfl rfl ?_
  refine x_callV (pc := 5) (As := [.int _]) dX4_add_5 km_X5_add kv_X5_add kl_RX4_33 hr.2.2.2.2.1.1 rfl rfl (by decide) ⟨Nat.le_refl _, Nat.le_refl _⟩ rfl (Nat.le_of_ble_eq_true rfl) (Nat.le_of_ble_eq_true rfl) (c_add_full (m := l.length) hr.2.2.2.2.1 h.2.1 hl (by omega) (⟨rfl, rfl, ?_⟩))
  refine x_aload_n (pc := 8) dX4_add_8 rfl rfl ?_
  refine x_getr (pc := 9) dX4_add_9 kf_RX4_20 hr.1 rfl hr.2.2.1 ?_
  refine x_iload_n (pc := 12) dX4_add_12 rfl rfl ?_
  refine x_callV (pc := 13) (As := [.int _]) dX4_add_13 km_X5_add kv_X5_add kl_RX4_33 hr.2.2.2.2.2.1.1 rfl rfl (by decide) ⟨Nat.le_refl _, Nat.le_refl _⟩ rfl (Nat.le_of_ble_eq_true rfl) (Nat.le_of_ble_eq_true rfl) (c_add_full (m := l.length) hr.2.2.2.2.2.1 h.2.2.1 hl (by omega) (⟨rfl, rfl, ?_⟩))
  refine x_aload_n (pc := 16) dX4_add_16 rfl rfl ?_
  refine x_getr (pc := 17) dX4_add_17 kf_RX4_23 hr.1 rfl hr.2.2.2.1 ?_
  refine x_iload_n (pc := 20) dX4_add_20 rfl rfl ?_
  refine x_callV (pc := 21) (As := [.int _]) dX4_add_21 km_X5_add kv_X5_add kl_RX4_33 hr.2.2.2.2.2.2.1 rfl rfl (by decide) ⟨Nat.le_refl _, Nat.le_refl _⟩ rfl (Nat.le_of_ble_eq_true rfl) (Nat.le_of_ble_eq_true rfl) (c_add_full (m := l.length) hr.2.2.2.2.2.2 h.2.2.2.1 hl (by omega) (⟨rfl, rfl, ?_⟩))
  refine x_return (pc := 24) dX4_add_24 rfl ⟨Nat.le_refl _, Nat.le_refl _⟩ ?_
  exact K

set_option maxHeartbeats 4000000 in
set_option maxRecDepth 100000 in
theorem c_rgAdd {T : xT} {n : Nat} {sh : Nat → Nat × Nat} {I : xI} {R : xR} {L : xL} {P : xPost} {c : Nat} (hr : xRing sh R c) {l : List (Nat × Nat × Nat)} {p s k : Nat} (h : DR I c l) (K : ∀ J : xI, DR J c (adL l (p, s, k)) → rgP c I J → P (n, sh, 0, 0) J R L none) : XM T zX4_add 1 [.ref c, .int (nI p), .int (nI s), .int (nI k)] n sh I R L P := by
  by_cases hl : l.length < 100
  · exact c_rgAdd1 hr h hl (fun J hJ f => K J (by rw [show adL l (p, s, k) = l ++ [(p, s, k)] from if_pos hl]; exact hJ) f)
  · exact c_rgAdd0 hr h (by omega) (K I (by rw [show adL l (p, s, k) = l from if_neg hl]; exact h) rgP.rf)

set_option maxHeartbeats 4000000 in
set_option maxRecDepth 100000 in
theorem c_accept {T : xT} {n : Nat} {sh : Nat → Nat × Nat} {I : xI} {R : xR} {L : xL} {P : xPost} {lr nw im tr rd hu se ac M : Nat} (hG : GEO sh R lr nw im tr rd hu se ac M) {t : xX} (ht : bRow I (rd + 1) t.1 t.2) (hx : XOK t) {p : Nat} (hp : I rd 2 = nI p) (hp2 : p ≤ t.1) {c : Nat} (hc : c < 256) (K1 : nxX t p = c → p < t.1 → P (n, sh, 0, 0) (up2 I rd 2 (nI (p + 1))) R L (some (.int 1))) (K0 : ¬ nxX t p = c → P (n, sh, 0, 0) I R L (some (.int 0))) : XM T zX3_accept 1 [.ref rd, .int (nI c)] n sh I R L P := by
  have x100 := hx.1
  refine x_aload_n (pc := 0) dX3_accept_0 rfl rfl ?_
  refine x_getr (pc := 1) dX3_accept_1 kf_RX3_14 hG.g_rd rfl hG.g_rd0 ?_
  refine x_aload_n (pc := 4) dX3_accept_4 rfl rfl ?_
  refine x_get (pc := 5) dX3_accept_5 kf_RX3_27 hG.g_rd rfl ?_
  refine x_callV (pc := 8) (As := [.int _]) dX3_accept_8 km_X5_at kv_X5_at kl_RX3_45 hG.g_text.1 rfl rfl (by decide) ⟨Nat.le_refl _, Nat.le_refl _⟩ rfl (Nat.le_of_ble_eq_true rfl) (Nat.le_of_ble_eq_true rfl) (c_at hG.g_text (⟨rfl, rfl, ?_⟩))
  rw [hp, nC_at ht hx (by omega)]
  refine x_iload_n (pc := 11) dX3_accept_11 rfl rfl ?_
  refine x_icmp_eq (pc := 12) (tgt := 17) dX3_accept_12 (by decide) (fun c12 => ?_) (fun c12 => ?_)
  · skip
    refine x_aload_n (pc := 17) dX3_accept_17 rfl rfl ?_
    refine x_dup (pc := 18) dX3_accept_18 rfl ?_
    refine x_get (pc := 19) dX3_accept_19 kf_RX3_27 hG.g_rd rfl ?_
    rw [hp]
    refine x_iconst (pc := 22) (v := 1) dX3_accept_22 (by decide) ?_
    refine x_iaddn (pc := 23) (a := p) (b := 1) dX3_accept_23 ?_
    refine x_put (pc := 24) dX3_accept_24 kf_RX3_27 hG.g_rd rfl (Or.inl kb_3_2) ?_
    refine x_iconst (pc := 27) (v := 1) dX3_accept_27 (by decide) ?_
    refine x_ireturn (pc := 28) dX3_accept_28 ⟨_, rfl, by decide⟩ ⟨Nat.le_refl _, Nat.le_refl _⟩ ?_
    exact K1 ((nC_eq hc).mp c12) (nxX_lt ((nC_eq hc).mp c12) hc)
  · skip
    refine x_iconst (pc := 15) (v := 0) dX3_accept_15 (by decide) ?_
    refine x_ireturn (pc := 16) dX3_accept_16 ⟨_, rfl, by decide⟩ ⟨Nat.le_refl _, Nat.le_refl _⟩ ?_
    exact K0 (fun q => c12 ((nC_eq hc).mpr q))

theorem dg_lo {a : Nat} (h : a < 257) : nC a - 48 < 0 ∨ 9 < nC a - 48 ↔ ¬ isDg a := by
  have : ∀ a, a < 257 → (nC a - 48 < 0 ∨ 9 < nC a - 48 ↔ ¬ (48 ≤ a ∧ a ≤ 57)) := by decide +kernel
  exact this a h
theorem dg_v {a : Nat} (h : isDg a) : nC a - 48 = nI (a - 48) := by
  have h : 48 ≤ a ∧ a ≤ 57 := h
  rw [show nC a = nI a from if_pos (by omega)]
  exact pk_sub (b := 48) (by omega)
theorem nxX_257 {t : xX} (hx : XOK t) (p : Nat) : nxX t p < 257 := by
  unfold nxX
  by_cases h : p < t.1
  · rw [if_pos h]
    have := hx.2 p h
    omega
  · rw [if_neg h]
    decide
theorem dg_lt2 {t : xX} {p : Nat} (h : isDg (nxX t p)) : p < t.1 := by
  have h : 48 ≤ nxX t p ∧ nxX t p ≤ 57 := h
  exact nxX_lt rfl (by omega)

theorem numF_n {nx : Nat → Nat} {p : Nat} (h : ¬ isDg (nx p)) : numF nx p = none := if_neg h
theorem numF_1 {nx : Nat → Nat} {p : Nat} (h : isDg (nx p)) (h' : ¬ isDg (nx (p + 1))) : numF nx p = some (p + 1, nx p - 48) := (if_pos h).trans (if_neg h')
theorem numF_2 {nx : Nat → Nat} {p : Nat} (h : isDg (nx p)) (h' : isDg (nx (p + 1))) : numF nx p = some (p + 2, 10 * (nx p - 48) + (nx (p + 1) - 48)) := (if_pos h).trans (if_pos h')
theorem i32_le_or {a b : Int32} (h : ¬ a ≤ b) : b < a := Int32.lt_iff_toInt_lt.mpr (Int.lt_of_not_ge fun q => h (Int32.le_iff_toInt_le.mpr q))
theorem i32_lt_of {a b : Int32} (h : a ≤ b) : ¬ b < a := fun q => by
  have h1 := Int32.le_iff_toInt_le.mp h
  have h2 := Int32.lt_iff_toInt_lt.mp q
  omega

theorem nI_la {a b : Nat} (ha : a < 10) (hb : b < 10) : 10 * nI a + nI b = nI (10 * a + b) := by
  have : ∀ a, a < 10 → ∀ b, b < 10 → 10 * nI a + nI b = nI (10 * a + b) := by decide +kernel
  exact this a ha b hb

set_option maxHeartbeats 4000000 in
set_option maxRecDepth 100000 in
theorem c_readNumber {T : xT} {n : Nat} {sh : Nat → Nat × Nat} {I : xI} {R : xR} {L : xL} {P : xPost} {lr nw im tr rd hu se ac M : Nat} (hG : GEO sh R lr nw im tr rd hu se ac M) {t : xX} (ht : bRow I (rd + 1) t.1 t.2) (hx : XOK t) {p : Nat} (hp : I rd 2 = nI p) (hp2 : p ≤ t.1) (K1 : ∀ (q k : Nat), numF (nxX t) p = some (q, k) → q ≤ t.1 → ∀ J : xI, J rd 2 = nI q → (∀ a, a ≠ rd → J a = I a) → P (n, sh, 0, 0) J R L (some (.int (nI k)))) (K0 : numF (nxX t) p = none → P (n, sh, 0, 0) I R L (some (.int (-1)))) : XM T zX3_readNumber 1 [.ref rd] n sh I R L P := by
  have x100 := hx.1
  refine x_aload_n (pc := 0) dX3_readNumber_0 rfl rfl ?_
  refine x_getr (pc := 1) dX3_readNumber_1 kf_RX3_14 hG.g_rd rfl hG.g_rd0 ?_
  refine x_aload_n (pc := 4) dX3_readNumber_4 rfl rfl ?_
  refine x_get (pc := 5) dX3_readNumber_5 kf_RX3_27 hG.g_rd rfl ?_
  refine x_callV (pc := 8) (As := [.int _]) dX3_readNumber_8 km_X5_at kv_X5_at kl_RX3_45 hG.g_text.1 rfl rfl (by decide) ⟨Nat.le_refl _, Nat.le_refl _⟩ rfl (Nat.le_of_ble_eq_true rfl) (Nat.le_of_ble_eq_true rfl) (c_at hG.g_text (⟨rfl, rfl, ?_⟩))
  rw [hp, nC_at ht hx (by omega)]
  refine x_bipush (pc := 11) (v := 48) dX3_readNumber_11 (by decide) ?_
  refine x_isub (pc := 13) dX3_readNumber_13 ?_
  refine x_topi (fun v14 ev14 => ?_)
  refine x_istore_n (pc := 14) (lv' := [(0, .ref rd), (1, .int v14)]) dX3_readNumber_14 rfl (by decide) rfl ?_
  refine x_iload_n (pc := 15) dX3_readNumber_15 rfl rfl ?_
  refine x_if_lt (pc := 16) (tgt := 25) dX3_readNumber_16 (by decide) (fun c16 => ?_) (fun c16 => ?_)
  · skip
    refine x_iconst (pc := 25) (v := -1) dX3_readNumber_25 (by decide) ?_
    refine x_ireturn (pc := 26) dX3_readNumber_26 ⟨_, rfl, rfl⟩ ⟨Nat.le_refl _, Nat.le_refl _⟩ ?_
    first
    | exact K0 (numF_n ((dg_lo (nxX_257 hx p)).mp (by rw [← ev14]; exact Or.inl c16)))
    | exact K0 (numF_n ((dg_lo (nxX_257 hx p)).mp (by rw [← ev14]; exact Or.inr (i32_le_or c22))))
  · skip
    refine x_iload_n (pc := 19) dX3_readNumber_19 rfl rfl ?_
    refine x_bipush (pc := 20) (v := 9) dX3_readNumber_20 (by decide) ?_
    refine x_icmp_le (pc := 22) (tgt := 27) dX3_readNumber_22 (by decide) (fun c22 => ?_) (fun c22 => ?_)
    · skip
      refine x_aload_n (pc := 27) dX3_readNumber_27 rfl rfl ?_
      refine x_dup (pc := 28) dX3_readNumber_28 rfl ?_
      refine x_get (pc := 29) dX3_readNumber_29 kf_RX3_27 hG.g_rd rfl ?_
      rw [hp]
      refine x_iconst (pc := 32) (v := 1) dX3_readNumber_32 (by decide) ?_
      refine x_iaddn (pc := 33) (a := p) (b := 1) dX3_readNumber_33 ?_
      refine x_put (pc := 34) dX3_readNumber_34 kf_RX3_27 hG.g_rd rfl (Or.inl kb_3_2) ?_
      refine x_aload_n (pc := 37) dX3_readNumber_37 rfl rfl ?_
      refine x_getr (pc := 38) dX3_readNumber_38 kf_RX3_14 hG.g_rd rfl hG.g_rd0 ?_
      refine x_aload_n (pc := 41) dX3_readNumber_41 rfl rfl ?_
      refine x_get (pc := 42) dX3_readNumber_42 kf_RX3_27 hG.g_rd rfl ?_
      refine x_callV (pc := 45) (As := [.int _]) dX3_readNumber_45 km_X5_at kv_X5_at kl_RX3_45 hG.g_text.1 rfl rfl (by decide) ⟨Nat.le_refl _, Nat.le_refl _⟩ rfl (Nat.le_of_ble_eq_true rfl) (Nat.le_of_ble_eq_true rfl) (c_at hG.g_text (⟨rfl, rfl, ?_⟩))
      have d1 : isDg (nxX t p) := Decidable.byContradiction (fun q => by
        have q1 := (dg_lo (nxX_257 hx p)).mpr q
        rw [← ev14] at q1
        exact q1.elim c16 (i32_lt_of c22))
      have l1 := dg_lt2 d1
      rw [up2_s, show up2 I rd 2 (nI (p + 1)) (rd + 1) = I (rd + 1) from up2_row (by omega), show up2 I rd 2 (nI (p + 1)) (rd + 2) = I (rd + 2) from up2_row (by omega), nC_at ht hx (by omega)]
      refine x_bipush (pc := 48) (v := 48) dX3_readNumber_48 (by decide) ?_
      refine x_isub (pc := 50) dX3_readNumber_50 ?_
      refine x_topi (fun v51 ev51 => ?_)
      refine x_istore_n (pc := 51) (lv' := [(0, .ref rd), (1, .int v14), (2, .int v51)]) dX3_readNumber_51 rfl (by decide) rfl ?_
      refine x_iload_n (pc := 52) dX3_readNumber_52 rfl rfl ?_
      refine x_if_lt (pc := 53) (tgt := 62) dX3_readNumber_53 (by decide) (fun c53 => ?_) (fun c53 => ?_)
      · skip
        refine x_iload_n (pc := 62) dX3_readNumber_62 rfl rfl ?_
        refine x_ireturn (pc := 63) dX3_readNumber_63 ⟨_, rfl, rfl⟩ ⟨Nat.le_refl _, Nat.le_refl _⟩ ?_
        first
        | exact xvi (K1 (p + 1) (nxX t p - 48) (numF_1 d1 ((dg_lo (nxX_257 hx (p + 1))).mp (by rw [← ev51]; exact Or.inl c53))) (by omega) _ up2_s (fun _ q => up2_row q)) ((dg_v d1).symm.trans ev14.symm)
        | exact xvi (K1 (p + 1) (nxX t p - 48) (numF_1 d1 ((dg_lo (nxX_257 hx (p + 1))).mp (by rw [← ev51]; exact Or.inr (i32_le_or c59)))) (by omega) _ up2_s (fun _ q => up2_row q)) ((dg_v d1).symm.trans ev14.symm)
      · skip
        refine x_iload_n (pc := 56) dX3_readNumber_56 rfl rfl ?_
        refine x_bipush (pc := 57) (v := 9) dX3_readNumber_57 (by decide) ?_
        refine x_icmp_le (pc := 59) (tgt := 64) dX3_readNumber_59 (by decide) (fun c59 => ?_) (fun c59 => ?_)
        · skip
          refine x_aload_n (pc := 64) dX3_readNumber_64 rfl rfl ?_
          refine x_dup (pc := 65) dX3_readNumber_65 rfl ?_
          refine x_get (pc := 66) dX3_readNumber_66 kf_RX3_27 hG.g_rd rfl ?_
          rw [up2_s]
          refine x_iconst (pc := 69) (v := 1) dX3_readNumber_69 (by decide) ?_
          refine x_iaddn (pc := 70) (a := (p + 1)) (b := 1) dX3_readNumber_70 ?_
          refine x_put (pc := 71) dX3_readNumber_71 kf_RX3_27 hG.g_rd rfl (Or.inl kb_3_2) ?_
          refine x_bipush (pc := 74) (v := 10) dX3_readNumber_74 (by decide) ?_
          refine x_iload_n (pc := 76) dX3_readNumber_76 rfl rfl ?_
          refine x_imul (pc := 77) dX3_readNumber_77 ?_
          refine x_iload_n (pc := 78) dX3_readNumber_78 rfl rfl ?_
          refine x_iadd (pc := 79) dX3_readNumber_79 ?_
          refine x_ireturn (pc := 80) dX3_readNumber_80 ⟨_, rfl, rfl⟩ ⟨Nat.le_refl _, Nat.le_refl _⟩ ?_
          have d2 : isDg (nxX t (p + 1)) := Decidable.byContradiction (fun q => by
            have q1 := (dg_lo (nxX_257 hx (p + 1))).mpr q
            rw [← ev51] at q1
            exact q1.elim c53 (i32_lt_of c59))
          have l2 := dg_lt2 d2
          have h48 : 48 ≤ nxX t p ∧ nxX t p ≤ 57 := d1
          have h49 : 48 ≤ nxX t (p + 1) ∧ nxX t (p + 1) ≤ 57 := d2
          exact xvi (K1 (p + 2) _ (numF_2 d1 d2) (by omega) _ up2_s (fun _ q => (up2_row q).trans (up2_row q))) (by rw [ev14, ev51, dg_v d1, dg_v d2]; exact (nI_la (by omega) (by omega)).symm)
        · skip
          refine x_iload_n (pc := 62) dX3_readNumber_62 rfl rfl ?_
          refine x_ireturn (pc := 63) dX3_readNumber_63 ⟨_, rfl, rfl⟩ ⟨Nat.le_refl _, Nat.le_refl _⟩ ?_
          first
          | exact xvi (K1 (p + 1) (nxX t p - 48) (numF_1 d1 ((dg_lo (nxX_257 hx (p + 1))).mp (by rw [← ev51]; exact Or.inl c53))) (by omega) _ up2_s (fun _ q => up2_row q)) ((dg_v d1).symm.trans ev14.symm)
          | exact xvi (K1 (p + 1) (nxX t p - 48) (numF_1 d1 ((dg_lo (nxX_257 hx (p + 1))).mp (by rw [← ev51]; exact Or.inr (i32_le_or c59)))) (by omega) _ up2_s (fun _ q => up2_row q)) ((dg_v d1).symm.trans ev14.symm)
    · skip
      refine x_iconst (pc := 25) (v := -1) dX3_readNumber_25 (by decide) ?_
      refine x_ireturn (pc := 26) dX3_readNumber_26 ⟨_, rfl, rfl⟩ ⟨Nat.le_refl _, Nat.le_refl _⟩ ?_
      first
      | exact K0 (numF_n ((dg_lo (nxX_257 hx p)).mp (by rw [← ev14]; exact Or.inl c16)))
      | exact K0 (numF_n ((dg_lo (nxX_257 hx p)).mp (by rw [← ev14]; exact Or.inr (i32_le_or c22))))

