/-! ===== the reader: the whole text ===== -/
def RTL (nx : Nat → Nat) (sz : Nat) (F : Nat → List xCL → xCQ (List xCL) → Prop) (m q : Nat) (acc : List xCL) (r : xCQ (List xCL)) : Prop := if q = sz then r = (q, some acc) else if m = 0 then r = (q, none) else if nx q = 59 then F (q + 1) acc r else r = (q, none)
section RTLS
variable {nx : Nat → Nat} {sz m q : Nat} {F : Nat → List xCL → xCQ (List xCL) → Prop} {acc : List xCL} {r : xCQ (List xCL)}
theorem RTL.ok (h : q = sz) : RTL nx sz F m q acc (q, some acc) := by
  unfold RTL
  rw [if_pos h]
theorem RTL.bad (h : ¬ q = sz) (h' : m = 0 ∨ nx q ≠ 59) : RTL nx sz F m q acc (q, none) := by
  unfold RTL
  rw [if_neg h]
  by_cases z : m = 0
  · rw [if_pos z]
  · rw [if_neg z, if_neg (h'.resolve_left z)]
theorem RTL.next (h : ¬ q = sz) (h' : ¬ m = 0) (hn : nx q = 59) (k : F (q + 1) acc r) : RTL nx sz F m q acc r := by
  unfold RTL
  rw [if_neg h, if_neg h', if_pos hn]
  exact k
end RTLS
/-- at most so many clauses more -/
def RLN (nx : Nat → Nat) (sz : Nat) : Nat → Nat → List xCL → xCQ (List xCL) → Prop
  | 0, _, _, _ => False
  | m + 1, p, acc, r => ∃ c, CLR nx p c ∧ match c with
    | (q, none) => r = (q, none)
    | (q, some x) => RTL nx sz (RLN nx sz m) m q (acc ++ [x]) r
theorem RLN.bad {nx : Nat → Nat} {sz m p q : Nat} {acc : List xCL} (h : CLR nx p (q, none)) : RLN nx sz (m + 1) p acc (q, none) := ⟨(q, none), h, rfl⟩
theorem RLN.go {nx : Nat → Nat} {sz m p q : Nat} {acc : List xCL} {x : xCL} {r : xCQ (List xCL)} (h : CLR nx p (q, some x)) (h' : RTL nx sz (RLN nx sz m) m q (acc ++ [x]) r) : RLN nx sz (m + 1) p acc r := ⟨(q, some x), h, h'⟩
def flL (acc : List xCL) : List (Nat × Nat × Nat) := acc.foldl (fun l x => l ++ clL x) []
def ldN (acc : List xCL) : Nat := acc.foldl (fun n x => if x.1 = 0 then x.2.1 else n) 1
theorem flL_s {acc : List xCL} {x : xCL} : flL (acc ++ [x]) = flL acc ++ clL x := by
  unfold flL
  rw [List.foldl_append]
  rfl
theorem ldN_s {acc : List xCL} {x : xCL} : ldN (acc ++ [x]) = if x.1 = 0 then x.2.1 else ldN acc := by
  unfold ldN
  rw [List.foldl_append]
  rfl
theorem nI_nle0 {i : Nat} (h : 1 ≤ i) (h' : i < 2 ^ 31) : ¬ nI i ≤ 0 := fun q => by
  have q1 := Int32.le_iff_toInt_le.mp q
  rw [nI_toInt h'] at q1
  have q1 : (i : Int) ≤ 0 := q1
  omega
theorem nxX_end {t : xX} {q : Nat} (h : t.1 ≤ q) : nxX t q = 256 := if_neg (by omega)

set_option maxHeartbeats 4000000 in
set_option maxRecDepth 100000 in
theorem c_rgClear {T : xT} {n : Nat} {sh : Nat → Nat × Nat} {I : xI} {R : xR} {L : xL} {P : xPost} {c : Nat} (hr : xRing sh R c) (K : ∀ J : xI, DR J c [] → J c 3 = 1 → (∀ a, a < c ∨ c + 7 ≤ a → J a = I a) → P (n, sh, 0, 0) J R L none) : XM T zX4_clear 1 [.ref c] n sh I R L P := by
  refine x_aload_n (pc := 0) dX4_clear_0 rfl rfl ?_
  refine x_getr (pc := 1) dX4_clear_1 kf_RX4_14 hr.1 rfl hr.2.1 ?_
  refine x_callV (pc := 4) (As := []) dX4_clear_4 km_X5_clear kv_X5_clear kl_RX4_30 hr.2.2.2.2.1.1 rfl rfl (by decide) ⟨Nat.le_refl _, Nat.le_refl _⟩ rfl (Nat.le_of_ble_eq_true rfl) (Nat.le_of_ble_eq_true rfl) (c_clear hr.2.2.2.2.1 (⟨rfl, rfl, ?_⟩))
  refine x_aload_n (pc := 7) dX4_clear_7 rfl rfl ?_
  refine x_getr (pc := 8) dX4_clear_8 kf_RX4_20 hr.1 rfl hr.2.2.1 ?_
  refine x_callV (pc := 11) (As := []) dX4_clear_11 km_X5_clear kv_X5_clear kl_RX4_30 hr.2.2.2.2.2.1.1 rfl rfl (by decide) ⟨Nat.le_refl _, Nat.le_refl _⟩ rfl (Nat.le_of_ble_eq_true rfl) (Nat.le_of_ble_eq_true rfl) (c_clear hr.2.2.2.2.2.1 (⟨rfl, rfl, ?_⟩))
  refine x_aload_n (pc := 14) dX4_clear_14 rfl rfl ?_
  refine x_getr (pc := 15) dX4_clear_15 kf_RX4_23 hr.1 rfl hr.2.2.2.1 ?_
  refine x_callV (pc := 18) (As := []) dX4_clear_18 km_X5_clear kv_X5_clear kl_RX4_30 hr.2.2.2.2.2.2.1 rfl rfl (by decide) ⟨Nat.le_refl _, Nat.le_refl _⟩ rfl (Nat.le_of_ble_eq_true rfl) (Nat.le_of_ble_eq_true rfl) (c_clear hr.2.2.2.2.2.2 (⟨rfl, rfl, ?_⟩))
  refine x_aload_n (pc := 21) dX4_clear_21 rfl rfl ?_
  refine x_iconst (pc := 22) (v := 1) dX4_clear_22 (by decide) ?_
  refine x_put (pc := 23) dX4_clear_23 kf_RX4_26 hr.1 rfl (Or.inl kb_4_3) ?_
  refine x_return (pc := 26) dX4_clear_26 rfl ⟨Nat.le_refl _, Nat.le_refl _⟩ ?_
  refine K _ ⟨by decide, ?_, ?_, ?_, fun i x hi => absurd hi (by simp)⟩ up2_s (fun a p => (up2_row (by omega)).trans ((up2_row (by omega)).trans ((up2_row (by omega)).trans (up2_row (by omega)))))
  · exact (congrFun ((up2_row (by omega)).trans ((up2_row (by omega)).trans (up2_row (by omega)))) 1).trans up2_s
  · exact (congrFun ((up2_row (by omega)).trans (up2_row (by omega))) 1).trans up2_s
  · exact (congrFun (up2_row (by omega)) 1).trans up2_s

set_option maxHeartbeats 4000000 in
set_option maxRecDepth 100000 in
theorem l_ft54 {T : xT} {n : Nat} {sh : Nat → Nat × Nat} {I : xI} {R : xR} {L : xL} {P : xPost} {J : xI} {lr nw im tr rd hu se ac M : Nat} (hG : GEO sh R lr nw im tr rd hu se ac M) {t : xX} (hx : XOK t) {q m : Nat} {acc : List xCL} (hs : RDS J rd t q (flL acc)) (hl : J (rd + 3) 3 = nI (ldN acc)) (fj : rdQ rd I J) (hm : m = 0 ∨ nxX t q ≠ 59) (hct : ∀ r, RTL (nxX t) t.1 (RLN (nxX t) t.1 m) m q acc r → RLN (nxX t) t.1 8 0 [] r) (K1 : ∀ (J : xI) (acc : List xCL), RLN (nxX t) t.1 8 0 [] (t.1, some acc) → DR J (rd + 3) (flL acc) → J (rd + 3) 3 = nI (ldN acc) → rdQ rd I J → P (n, sh, 0, 0) J R L (some (.int (-1)))) (K0 : ∀ (J : xI) (q : Nat), RLN (nxX t) t.1 8 0 [] (q, none) → q ≤ 100 → rdQ rd I J → P (n, sh, 0, 0) J R L (some (.int (nI q))))  :  X T zX3_faultOfText 18 0 0 P 54 [(0, .ref rd)] [] (n, sh, 0, 0) (J) R L := by
  have x100 := hx.1
  have hq := hs.2.2.1
  refine x_aload_n (pc := 54) dX3_faultOfText_54 rfl rfl ?_
  refine x_get (pc := 55) dX3_faultOfText_55 kf_RX3_27 hG.g_rd rfl ?_
  rw [hs.2.1]
  refine x_aload_n (pc := 58) dX3_faultOfText_58 rfl rfl ?_
  refine x_getr (pc := 59) dX3_faultOfText_59 kf_RX3_14 hG.g_rd rfl hG.g_rd0 ?_
  refine x_get (pc := 62) dX3_faultOfText_62 kf_RX3_42 hG.g_text.1 rfl ?_
  rw [hs.1.1]
  refine x_icmpn_ne (pc := 65) (tgt := 72) (a := q) (b := t.1) dX3_faultOfText_65 (by decide) (by omega) (by omega) (fun c65 => ?_) (fun c65 => ?_)
  · skip
    refine x_aload_n (pc := 72) dX3_faultOfText_72 rfl rfl ?_
    refine x_get (pc := 73) dX3_faultOfText_73 kf_RX3_27 hG.g_rd rfl ?_
    refine x_ireturn (pc := 76) dX3_faultOfText_76 ⟨_, rfl, rfl⟩ ⟨Nat.le_refl _, Nat.le_refl _⟩ ?_
    first
    | exact K1 J acc (by have h9 := hct _ (RTL.ok (show q = t.1 by omega)); rw [show q = t.1 by omega] at h9; exact h9) hs.2.2.2.1 hl fj
    | (rw [hs.2.1]; exact K0 J q (hct _ (RTL.bad (show ¬ q = t.1 by omega) hm)) (by omega) fj)
  · skip
    refine x_iconst (pc := 68) (v := -1) dX3_faultOfText_68 (by decide) ?_
    refine x_goto (pc := 69) (tgt := 76) dX3_faultOfText_69 (by decide) ?_
    refine x_ireturn (pc := 76) dX3_faultOfText_76 ⟨_, rfl, rfl⟩ ⟨Nat.le_refl _, Nat.le_refl _⟩ ?_
    first
    | exact K1 J acc (by have h9 := hct _ (RTL.ok (show q = t.1 by omega)); rw [show q = t.1 by omega] at h9; exact h9) hs.2.2.2.1 hl fj
    | (rw [hs.2.1]; exact K0 J q (hct _ (RTL.bad (show ¬ q = t.1 by omega) hm)) (by omega) fj)

set_option maxHeartbeats 4000000 in
set_option maxRecDepth 100000 in
theorem l_ft {T : xT} {n : Nat} {sh : Nat → Nat × Nat} {I : xI} {R : xR} {L : xL} {P : xPost} {lr nw im tr rd hu se ac M : Nat} (hG : GEO sh R lr nw im tr rd hu se ac M) {t : xX} (hx : XOK t) (K1 : ∀ (J : xI) (acc : List xCL), RLN (nxX t) t.1 8 0 [] (t.1, some acc) → DR J (rd + 3) (flL acc) → J (rd + 3) 3 = nI (ldN acc) → rdQ rd I J → P (n, sh, 0, 0) J R L (some (.int (-1)))) (K0 : ∀ (J : xI) (q : Nat), RLN (nxX t) t.1 8 0 [] (q, none) → q ≤ 100 → rdQ rd I J → P (n, sh, 0, 0) J R L (some (.int (nI q))))  : ∀ (w i : Nat), i + w = 8 → ∀ (J : xI) (q : Nat) (acc : List xCL), 1 ≤ i → RDS J rd t q (flL acc) → J (rd + 3) 3 = nI (ldN acc) → rdQ rd I J → (∀ r, RTL (nxX t) t.1 (RLN (nxX t) t.1 (8 - i)) (8 - i) q acc r → RLN (nxX t) t.1 8 0 [] r) → X T zX3_faultOfText 18 0 0 P 14 [(0, .ref rd), (1, .int (nI i))] [] (n, sh, 0, 0) (J) R L := by
  have x100 := hx.1
  intro w
  induction w with
  | zero =>
    intro i hw J q acc hi1 hs hl fj hct
    have hz : i = 8 := by omega
    refine x_iload_n (pc := 14) dX3_faultOfText_14 rfl rfl ?_
    refine x_bipush (pc := 15) (v := 8) dX3_faultOfText_15 (by decide) ?_
    refine x_icmpn_ge_t (pc := 17) (tgt := 54) (a := i) (b := 8) dX3_faultOfText_17 (by decide) (by omega) (by decide) (by omega) ?_
    exact X.keep [0] rfl (l_ft54 hG hx hs hl fj (m := 8 - i) (Or.inl (by omega)) hct K1 K0)
  | succ w ih =>
    intro i hw J q acc hi1 hs hl fj hct
    have hi : i < 8 := by omega
    refine x_iload_n (pc := 14) dX3_faultOfText_14 rfl rfl ?_
    refine x_bipush (pc := 15) (v := 8) dX3_faultOfText_15 (by decide) ?_
    refine x_icmpn_ge_f (pc := 17) (tgt := 54) (a := i) (b := 8) dX3_faultOfText_17 (by decide) (by omega) (by decide) (by omega) ?_
    refine x_iload_n (pc := 20) dX3_faultOfText_20 rfl rfl ?_
    refine x_if_le_f (pc := 21) (tgt := 36) dX3_faultOfText_21 (by decide) (nI_nle0 hi1 (by omega)) ?_
    refine x_aload_n (pc := 24) dX3_faultOfText_24 rfl rfl ?_
    refine x_bipush (pc := 25) (v := 59) dX3_faultOfText_25 (by decide) ?_
    refine x_callV (pc := 27) (As := [.int _]) dX3_faultOfText_27 km_X3_accept kv_X3_accept kl_RX3_34 hG.g_rd rfl rfl (by decide) ⟨Nat.le_refl _, Nat.le_refl _⟩ rfl (Nat.le_of_ble_eq_true rfl) (Nat.le_of_ble_eq_true rfl) (c_accept (c := 59) hG hs.1 hx hs.2.1 hs.2.2.1 (by decide) (fun hc hlt => ⟨rfl, rfl, ?_⟩) (fun hc => ⟨rfl, rfl, ?_⟩))
    · skip
      refine x_if_ne_t (pc := 30) (tgt := 36) dX3_faultOfText_30 (by decide) (by decide) ?_
      refine x_aload_n (pc := 36) dX3_faultOfText_36 rfl rfl ?_
      refine x_callV (pc := 37) (As := []) dX3_faultOfText_37 km_X3_readClause kv_X3_readClause kl_RX3_38 hG.g_rd rfl rfl (by decide) ⟨Nat.le_refl _, Nat.le_refl _⟩ rfl (Nat.le_of_ble_eq_true rfl) (Nat.le_of_ble_eq_true rfl) (c_readClause (p := q + 1) (l := flL acc) hG hx (hs.nx hlt) (fun J2 q2 x2 h2 s2 l2 f2 => ⟨rfl, rfl, ?_⟩) (fun J2 q2 h2 s2 f2 => ⟨rfl, rfl, ?_⟩))
      · skip
        refine x_if_ne_t (pc := 40) (tgt := 48) dX3_faultOfText_40 (by decide) (by decide) ?_
        refine x_iinc (pc := 48) (v := nI (i + 1)) (lv' := [(0, .ref rd), (1, .int (nI (i + 1)))]) dX3_faultOfText_48 rfl (nI_1 _) (by decide) rfl ?_
        refine x_goto (pc := 51) (tgt := 14) dX3_faultOfText_51 (by decide) ?_
        refine ih (i + 1) (by omega) J2 q2 (acc ++ [x2]) (by omega) (by rw [flL_s]; exact s2) ?_ (fj.tr (rdP.nx.q.tr f2)) (fun r hr => hct r ?_)
        · rw [l2, ldN_s, congrFun (up2_row (show rd + 3 ≠ rd by omega)) 3, hl]
          by_cases z : x2.1 = 0
          · rw [if_pos z, if_pos z]
          · rw [if_neg z, if_neg z]
        · refine RTL.next (show ¬ q = t.1 by omega) (show ¬ 8 - i = 0 by omega) hc ?_
          rw [show 8 - i = (8 - (i + 1)) + 1 by omega]
          exact RLN.go h2 hr
      · skip
        refine x_if_ne_f (pc := 40) (tgt := 48) dX3_faultOfText_40 (by decide) (by decide) ?_
        refine x_aload_n (pc := 43) dX3_faultOfText_43 rfl rfl ?_
        refine x_get (pc := 44) dX3_faultOfText_44 kf_RX3_27 hG.g_rd rfl ?_
        refine x_ireturn (pc := 47) dX3_faultOfText_47 ⟨_, rfl, rfl⟩ ⟨Nat.le_refl _, Nat.le_refl _⟩ ?_
        rw [s2.2.1]
        refine K0 J2 q2 (hct _ ?_) (by have := s2.2.2.1; omega) (fj.tr (rdP.nx.q.tr f2))
        refine RTL.next (show ¬ q = t.1 by omega) (show ¬ 8 - i = 0 by omega) hc ?_
        rw [show 8 - i = w + 1 by omega]
        exact RLN.bad h2
    · skip
      refine x_if_ne_f (pc := 30) (tgt := 36) dX3_faultOfText_30 (by decide) (by decide) ?_
      refine x_goto (pc := 33) (tgt := 54) dX3_faultOfText_33 (by decide) ?_
      exact X.keep [0] rfl (l_ft54 hG hx hs hl fj (m := 8 - i) (Or.inr hc) hct K1 K0)

set_option maxHeartbeats 4000000 in
set_option maxRecDepth 100000 in
theorem c_faultOfText {T : xT} {n : Nat} {sh : Nat → Nat × Nat} {I : xI} {R : xR} {L : xL} {P : xPost} {lr nw im tr rd hu se ac M : Nat} (hG : GEO sh R lr nw im tr rd hu se ac M) {t : xX} (hx : XOK t) (ht : bRow I (rd + 1) t.1 t.2) (K1 : ∀ (J : xI) (acc : List xCL), RLN (nxX t) t.1 8 0 [] (t.1, some acc) → DR J (rd + 3) (flL acc) → J (rd + 3) 3 = nI (ldN acc) → rdQ rd I J → P (n, sh, 0, 0) J R L (some (.int (-1)))) (K0 : ∀ (J : xI) (q : Nat), RLN (nxX t) t.1 8 0 [] (q, none) → q ≤ 100 → rdQ rd I J → P (n, sh, 0, 0) J R L (some (.int (nI q))))  : XM T zX3_faultOfText 18 [.ref rd] n sh I R L P := by
  have x100 := hx.1
  refine x_aload_n (pc := 0) dX3_faultOfText_0 rfl rfl ?_
  refine x_iconst (pc := 1) (v := 0) dX3_faultOfText_1 (by decide) ?_
  refine x_put (pc := 2) dX3_faultOfText_2 kf_RX3_27 hG.g_rd rfl (Or.inl kb_3_2) ?_
  refine x_aload_n (pc := 5) dX3_faultOfText_5 rfl rfl ?_
  refine x_getr (pc := 6) dX3_faultOfText_6 kf_RX3_23 hG.g_rd rfl hG.g_rd1 ?_
  refine x_callV (pc := 9) (As := []) dX3_faultOfText_9 km_X4_clear kv_X4_clear kl_RX3_31 hG.g_draft.1 rfl rfl (by decide) ⟨Nat.le_refl _, Nat.le_refl _⟩ rfl (Nat.le_of_ble_eq_true rfl) (Nat.le_of_ble_eq_true rfl) (c_rgClear hG.g_draft (fun J dJ eJ fJ => ⟨rfl, rfl, ?_⟩))
  have fq : rdQ rd I J := fun a p => (fJ a (by omega)).trans (up2_row (by omega))
  have hs : RDS J rd t 0 [] := ⟨ht.keepP (fq _ (by omega)) (fq _ (by omega)), (congrFun (fJ rd (by omega)) 2).trans up2_s, by omega, dJ, Nat.le_refl _⟩
  refine x_iconst (pc := 12) (v := 0) dX3_faultOfText_12 (by decide) ?_
  refine x_istore_n (pc := 13) (lv' := [(0, .ref rd), (1, .int 0)]) dX3_faultOfText_13 rfl (by decide) rfl ?_
  refine x_iload_n (pc := 14) dX3_faultOfText_14 rfl rfl ?_
  refine x_bipush (pc := 15) (v := 8) dX3_faultOfText_15 (by decide) ?_
  refine x_icmp_ge_f (pc := 17) (tgt := 54) dX3_faultOfText_17 (by decide) (by decide) ?_
  refine x_iload_n (pc := 20) dX3_faultOfText_20 rfl rfl ?_
  refine x_if_le_t (pc := 21) (tgt := 36) dX3_faultOfText_21 (by decide) (by decide) ?_
  refine x_aload_n (pc := 36) dX3_faultOfText_36 rfl rfl ?_
  refine x_callV (pc := 37) (As := []) dX3_faultOfText_37 km_X3_readClause kv_X3_readClause kl_RX3_38 hG.g_rd rfl rfl (by decide) ⟨Nat.le_refl _, Nat.le_refl _⟩ rfl (Nat.le_of_ble_eq_true rfl) (Nat.le_of_ble_eq_true rfl) (c_readClause (p := 0) (l := []) hG hx hs (fun J2 q2 x2 h2 s2 l2 f2 => ⟨rfl, rfl, ?_⟩) (fun J2 q2 h2 s2 f2 => ⟨rfl, rfl, ?_⟩))
  · skip
    refine x_if_ne_t (pc := 40) (tgt := 48) dX3_faultOfText_40 (by decide) (by decide) ?_
    refine x_iinc (pc := 48) (v := 1) (lv' := [(0, .ref rd), (1, .int 1)]) dX3_faultOfText_48 rfl (by decide) (by decide) rfl ?_
    refine x_goto (pc := 51) (tgt := 14) dX3_faultOfText_51 (by decide) ?_
    refine l_ft hG hx K1 K0 7 1 (by omega) J2 q2 [x2] (by omega) s2 ?_ (fq.tr f2) (fun r hr => RLN.go h2 hr)
    rw [l2, eJ]
    show _ = nI (if x2.1 = 0 then x2.2.1 else 1)
    by_cases z : x2.1 = 0
    · rw [if_pos z, if_pos z]
    · rw [if_neg z, if_neg z]; rfl
  · skip
    refine x_if_ne_f (pc := 40) (tgt := 48) dX3_faultOfText_40 (by decide) (by decide) ?_
    refine x_aload_n (pc := 43) dX3_faultOfText_43 rfl rfl ?_
    refine x_get (pc := 44) dX3_faultOfText_44 kf_RX3_27 hG.g_rd rfl ?_
    refine x_ireturn (pc := 47) dX3_faultOfText_47 ⟨_, rfl, rfl⟩ ⟨Nat.le_refl _, Nat.le_refl _⟩ ?_
    rw [s2.2.1]
    exact K0 J2 q2 (RLN.bad h2) (by have := s2.2.2.1; omega) (fq.tr f2)

