/-! ===== the reader: clauses ===== -/
/-- 0: loud, 1: come, 2: yield -/
def clWd (c : Nat) : Nat := if c = 108 then 0 else if c = 99 then 1 else 2
abbrev xCL : Type := Nat × Nat × xCE
def CLR (nx : Nat → Nat) (p : Nat) (r : xCQ xCL) : Prop := ((wdF nx p (clWd (nx p))).2 = false ∧ r = ((wdF nx p (clWd (nx p))).1, none)) ∨ ((wdF nx p (clWd (nx p))).2 = true ∧ numF nx (wdF nx p (clWd (nx p))).1 = none ∧ r = ((wdF nx p (clWd (nx p))).1, none)) ∨ ∃ q k, (wdF nx p (clWd (nx p))).2 = true ∧ numF nx (wdF nx p (clWd (nx p))).1 = some (q, k) ∧
  ((clWd (nx p) = 0 ∧ r = (q, some (0, k, eT 0 0 0))) ∨ (clWd (nx p) ≠ 0 ∧ nx q ≠ 32 ∧ r = (q, none)) ∨ (clWd (nx p) ≠ 0 ∧ nx q = 32 ∧ ((∃ q2, PD nx 3 0 (q + 1) none (q2, none) ∧ r = (q2, none)) ∨ ∃ q2 e, PD nx 3 0 (q + 1) none (q2, some e) ∧ r = (q2, some (clWd (nx p), k, e)))))
def clL (x : xCL) : List (Nat × Nat × Nat) := if x.1 = 0 then [] else x.2.2.1 ++ [(if x.1 = 1 then 67 else 89, 0, x.2.1)]
def rdQ (rd : Nat) (I J : xI) : Prop := ∀ a, (a < rd ∨ a = rd + 1 ∨ a = rd + 2 ∨ rd + 10 ≤ a) → J a = I a
theorem rdP.q {rd : Nat} {I J : xI} (h : rdP rd I J) : rdQ rd I J := fun a p => h a (by omega)
theorem rdQ.tr {rd : Nat} {I J J' : xI} (h : rdQ rd I J) (h' : rdQ rd J J') : rdQ rd I J' := fun a p => (h' a p).trans (h a p)
theorem wd_ge {nx : Nat → Nat} {p i : Nat} : ∀ w k, p + k ≤ (wdI nx p i w k).1
  | 0, k => Nat.le_refl _
  | w + 1, k => by
    show p + k ≤ (if nx (p + k) = wdC i k then wdI nx p i w (k + 1) else (p + k, false)).1
    by_cases h : nx (p + k) = wdC i k
    · rw [if_pos h]
      have := wd_ge (nx := nx) (p := p) (i := i) w (k + 1)
      omega
    · rw [if_neg h]
      exact Nat.le_refl _
theorem wdF_ge {nx : Nat → Nat} {p i : Nat} : p ≤ (wdF nx p i).1 := wd_ge (wlen i) 0

set_option maxHeartbeats 4000000 in
set_option maxRecDepth 100000 in
theorem c_readWord2 {T : xT} {n : Nat} {sh : Nat → Nat × Nat} {I : xI} {R : xR} {L : xL} {P : xPost} {lr nw im tr rd hu se ac M : Nat} (hG : GEO sh R lr nw im tr rd hu se ac M) {t : xX} (hx : XOK t) {p i : Nat} {l : List (Nat × Nat × Nat)} (hi : i < 3) (hs : RDS I rd t p l) (K1 : ∀ J : xI, (wdF (nxX t) p i).2 = true → RDS J rd t (wdF (nxX t) p i).1 l → rdP rd I J → P (n, sh, 0, 0) J R L (some (.int 1))) (K0 : ∀ J : xI, (wdF (nxX t) p i).2 = false → RDS J rd t (wdF (nxX t) p i).1 l → rdP rd I J → P (n, sh, 0, 0) J R L (some (.int 0))) : XM T zX3_readWord 4 [.ref rd, .ref (1000001 + i)] n sh I R L P := by
  refine c_readWord hG hx hi hs (fun J h f => ?_)
  cases e : (wdF (nxX t) p i).2 with
  | true => exact K1 J e h f
  | false => exact K0 J e h f

set_option maxHeartbeats 4000000 in
set_option maxRecDepth 100000 in
theorem l_clL {T : xT} {n : Nat} {sh : Nat → Nat × Nat} {I : xI} {R : xR} {L : xL} {P : xPost} {lr nw im tr rd hu se ac M : Nat} (hG : GEO sh R lr nw im tr rd hu se ac M) {t : xX} (hx : XOK t) {p : Nat} {l : List (Nat × Nat × Nat)} (hs : RDS I rd t p l) (hw0 : clWd (nxX t p) = 0) (K1 : ∀ (J : xI) (q : Nat) (x : xCL), CLR (nxX t) p (q, some x) → RDS J rd t q (l ++ clL x) → J (rd + 3) 3 = (if x.1 = 0 then nI x.2.1 else I (rd + 3) 3) → rdQ rd I J → P (n, sh, 0, 0) J R L (some (.int 1))) (K0 : ∀ (J : xI) (q : Nat), CLR (nxX t) p (q, none) → RDX J rd t q → rdQ rd I J → P (n, sh, 0, 0) J R L (some (.int 0)))  :  X T zX3_readClause 17 0 0 P 47 [(0, .ref rd), (1, .int (nC (nxX t p))), (2, .int 1), (3, .ref 1000001)] [] (n, sh, 0, 0) (I) R L := by
  refine x_aload_n (pc := 47) dX3_readClause_47 rfl rfl ?_
  refine x_aload_n (pc := 48) dX3_readClause_48 rfl rfl ?_
  refine x_callV (pc := 49) (As := [.ref _]) dX3_readClause_49 km_X3_readWord kv_X3_readWord kl_RX3_55 hG.g_rd rfl rfl (by decide) ⟨Nat.le_refl _, Nat.le_refl _⟩ rfl (Nat.le_of_ble_eq_true rfl) (Nat.le_of_ble_eq_true rfl) (c_readWord2 (i := 0) hG hx (by decide) hs (fun J1 w1 h1 f1 => ⟨rfl, rfl, ?_⟩) (fun J1 w1 h1 f1 => ⟨rfl, rfl, ?_⟩))
  · skip
    refine x_if_ne_t (pc := 52) (tgt := 57) dX3_readClause_52 (by decide) (by decide) ?_
    refine x_aload_n (pc := 57) dX3_readClause_57 rfl rfl ?_
    refine x_callV (pc := 58) (As := []) dX3_readClause_58 km_X3_readNumber kv_X3_readNumber kl_RX3_59 hG.g_rd rfl rfl (by decide) ⟨Nat.le_refl _, Nat.le_refl _⟩ rfl (Nat.le_of_ble_eq_true rfl) (Nat.le_of_ble_eq_true rfl) (c_readNumber (p := (wdF (nxX t) p 0).1) hG h1.1 hx h1.2.1 h1.2.2.1 (fun q k hn hq J2 e2 f2 => ⟨rfl, rfl, ?_⟩) (fun hn => ⟨rfl, rfl, ?_⟩))
    · skip
      have hk := (numF_p hn).2
      have hq1 := (numF_p hn).1
      have hq1 : (wdF (nxX t) p 0).1 + 1 ≤ q := hq1
      have h2 := h1.go f2 e2 hq (by omega)
      refine x_istore (pc := 61) (lv' := [(0, .ref rd), (1, .int (nC (nxX t p))), (2, .int 1), (3, .ref 1000001), (4, .int (nI k))]) dX3_readClause_61 (by decide) rfl ?_
      refine x_iload (pc := 63) dX3_readClause_63 rfl ?_
      refine x_iconst (pc := 65) (v := -1) dX3_readClause_65 (by decide) ?_
      refine x_icmp_ne_t (pc := 66) (tgt := 71) dX3_readClause_66 (by decide) (nI_nem (by omega)) ?_
      refine x_iload_n (pc := 71) dX3_readClause_71 rfl rfl ?_
      refine x_if_eq_f (pc := 72) (tgt := 86) dX3_readClause_72 (by decide) (by decide) ?_
      refine x_aload_n (pc := 75) dX3_readClause_75 rfl rfl ?_
      refine x_getr (pc := 76) dX3_readClause_76 kf_RX3_23 hG.g_rd rfl hG.g_rd1 ?_
      refine x_iload (pc := 79) dX3_readClause_79 rfl ?_
      refine x_put (pc := 81) dX3_readClause_81 kf_RX3_63 hG.g_draft.1 rfl (Or.inl kb_4_3) ?_
      refine x_iconst (pc := 84) (v := 1) dX3_readClause_84 (by decide) ?_
      refine x_ireturn (pc := 85) dX3_readClause_85 ⟨_, rfl, by decide⟩ ⟨Nat.le_refl _, Nat.le_refl _⟩ ?_
      refine K1 _ q (0, k, eT 0 0 0) (Or.inr (Or.inr ⟨q, k, by rw [hw0]; exact w1, by rw [hw0]; exact hn, Or.inl ⟨hw0, rfl⟩⟩)) ?_ up2_s (fun a p => (up2_row (by omega)).trans ((f2 a (by omega)).trans (f1 a (by omega))))
      have h3 : l ++ clL (0, k, eT 0 0 0) = l := List.append_nil l
      rw [h3]
      exact ⟨h2.1.keepP (up2_row (by omega)) (up2_row (by omega)), (congrFun (up2_row (by omega)) 2).trans h2.2.1, h2.2.2.1, h2.2.2.2.1.keep (fun a q1 q2 => up2_row (by omega)), h2.2.2.2.2⟩
    · skip
      refine x_istore (pc := 61) (lv' := [(0, .ref rd), (1, .int (nC (nxX t p))), (2, .int 1), (3, .ref 1000001), (4, .int (-1))]) dX3_readClause_61 (by decide) rfl ?_
      refine x_iload (pc := 63) dX3_readClause_63 rfl ?_
      refine x_iconst (pc := 65) (v := -1) dX3_readClause_65 (by decide) ?_
      refine x_icmp_ne_f (pc := 66) (tgt := 71) dX3_readClause_66 (by decide) (by decide) ?_
      refine x_iconst (pc := 69) (v := 0) dX3_readClause_69 (by decide) ?_
      refine x_ireturn (pc := 70) dX3_readClause_70 ⟨_, rfl, by decide⟩ ⟨Nat.le_refl _, Nat.le_refl _⟩ ?_
      exact K0 J1 _ (Or.inr (Or.inl ⟨by rw [hw0]; exact w1, by rw [hw0]; exact hn, by rw [hw0]⟩)) h1.x f1.q
  · skip
    refine x_if_ne_f (pc := 52) (tgt := 57) dX3_readClause_52 (by decide) (by decide) ?_
    refine x_iconst (pc := 55) (v := 0) dX3_readClause_55 (by decide) ?_
    refine x_ireturn (pc := 56) dX3_readClause_56 ⟨_, rfl, by decide⟩ ⟨Nat.le_refl _, Nat.le_refl _⟩ ?_
    exact K0 J1 _ (Or.inl ⟨by rw [hw0]; exact w1, by rw [hw0]⟩) h1.x f1.q

set_option maxHeartbeats 4000000 in
set_option maxRecDepth 100000 in
theorem l_clX {T : xT} {n : Nat} {sh : Nat → Nat × Nat} {I : xI} {R : xR} {L : xL} {P : xPost} {lr nw im tr rd hu se ac M : Nat} (hG : GEO sh R lr nw im tr rd hu se ac M) {t : xX} (hx : XOK t) {p : Nat} {l : List (Nat × Nat × Nat)} (hs : RDS I rd t p l) {i : Nat} (hi1 : 1 ≤ i) (hi3 : i < 3) (h9 : nxX t p = 99 ↔ i = 1) (hw0 : clWd (nxX t p) = i) (K1 : ∀ (J : xI) (q : Nat) (x : xCL), CLR (nxX t) p (q, some x) → RDS J rd t q (l ++ clL x) → J (rd + 3) 3 = (if x.1 = 0 then nI x.2.1 else I (rd + 3) 3) → rdQ rd I J → P (n, sh, 0, 0) J R L (some (.int 1))) (K0 : ∀ (J : xI) (q : Nat), CLR (nxX t) p (q, none) → RDX J rd t q → rdQ rd I J → P (n, sh, 0, 0) J R L (some (.int 0)))  :  X T zX3_readClause 17 0 0 P 47 [(0, .ref rd), (1, .int (nC (nxX t p))), (2, .int 0), (3, .ref (1000001 + i))] [] (n, sh, 0, 0) (I) R L := by
  refine x_aload_n (pc := 47) dX3_readClause_47 rfl rfl ?_
  refine x_aload_n (pc := 48) dX3_readClause_48 rfl rfl ?_
  refine x_callV (pc := 49) (As := [.ref _]) dX3_readClause_49 km_X3_readWord kv_X3_readWord kl_RX3_55 hG.g_rd rfl rfl (by decide) ⟨Nat.le_refl _, Nat.le_refl _⟩ rfl (Nat.le_of_ble_eq_true rfl) (Nat.le_of_ble_eq_true rfl) (c_readWord2 (i := i) hG hx (by omega) hs (fun J1 w1 h1 f1 => ⟨rfl, rfl, ?_⟩) (fun J1 w1 h1 f1 => ⟨rfl, rfl, ?_⟩))
  · skip
    refine x_if_ne_t (pc := 52) (tgt := 57) dX3_readClause_52 (by decide) (by decide) ?_
    refine x_aload_n (pc := 57) dX3_readClause_57 rfl rfl ?_
    refine x_callV (pc := 58) (As := []) dX3_readClause_58 km_X3_readNumber kv_X3_readNumber kl_RX3_59 hG.g_rd rfl rfl (by decide) ⟨Nat.le_refl _, Nat.le_refl _⟩ rfl (Nat.le_of_ble_eq_true rfl) (Nat.le_of_ble_eq_true rfl) (c_readNumber (p := (wdF (nxX t) p i).1) hG h1.1 hx h1.2.1 h1.2.2.1 (fun q k hn hq J2 e2 f2 => ⟨rfl, rfl, ?_⟩) (fun hn => ⟨rfl, rfl, ?_⟩))
    · skip
      have hk := (numF_p hn).2
      have hq1 := (numF_p hn).1
      have hq1 : (wdF (nxX t) p i).1 + 1 ≤ q := hq1
      have h2 := h1.go f2 e2 hq (by omega)
      refine x_istore (pc := 61) (lv' := [(0, .ref rd), (1, .int (nC (nxX t p))), (2, .int 0), (3, .ref (1000001 + i)), (4, .int (nI k))]) dX3_readClause_61 (by decide) rfl ?_
      refine x_iload (pc := 63) dX3_readClause_63 rfl ?_
      refine x_iconst (pc := 65) (v := -1) dX3_readClause_65 (by decide) ?_
      refine x_icmp_ne_t (pc := 66) (tgt := 71) dX3_readClause_66 (by decide) (nI_nem (by omega)) ?_
      refine x_iload_n (pc := 71) dX3_readClause_71 rfl rfl ?_
      refine x_if_eq_t (pc := 72) (tgt := 86) dX3_readClause_72 (by decide) (by decide) ?_
      refine x_aload_n (pc := 86) dX3_readClause_86 rfl rfl ?_
      refine x_bipush (pc := 87) (v := 32) dX3_readClause_87 (by decide) ?_
      refine x_callV (pc := 89) (As := [.int _]) dX3_readClause_89 km_X3_accept kv_X3_accept kl_RX3_34 hG.g_rd rfl rfl (by decide) ⟨Nat.le_refl _, Nat.le_refl _⟩ rfl (Nat.le_of_ble_eq_true rfl) (Nat.le_of_ble_eq_true rfl) (c_accept (c := 32) hG h2.1 hx h2.2.1 h2.2.2.1 (by decide) (fun hc hlt => ⟨rfl, rfl, ?_⟩) (fun hc => ⟨rfl, rfl, ?_⟩))
      · skip
        refine x_if_eq_f (pc := 92) (tgt := 103) dX3_readClause_92 (by decide) (by decide) ?_
        refine x_aload_n (pc := 95) dX3_readClause_95 rfl rfl ?_
        refine x_iconst (pc := 96) (v := 0) dX3_readClause_96 (by decide) ?_
        refine x_callV (pc := 97) (As := [.int _]) dX3_readClause_97 km_X3_readEither kv_X3_readEither kl_RX3_66 hG.g_rd rfl rfl (by decide) ⟨Nat.le_refl _, Nat.le_refl _⟩ rfl (Nat.le_of_ble_eq_true rfl) (Nat.le_of_ble_eq_true rfl) (c_readEither0 (wi := 0) (p := q + 1) hG hx (h2.nx hlt) (by omega) (by omega) (fun J3 q3 e3 hp h3 f3 => ⟨rfl, rfl, ?_⟩) (fun J3 q3 hp h3 f3 => ⟨rfl, rfl, ?_⟩))
        · skip
          refine x_if_ne_t (pc := 100) (tgt := 105) dX3_readClause_100 (by decide) (by decide) ?_
          refine x_aload_n (pc := 105) dX3_readClause_105 rfl rfl ?_
          refine x_getr (pc := 106) dX3_readClause_106 kf_RX3_23 hG.g_rd rfl hG.g_rd1 ?_
          refine x_iload_n (pc := 109) dX3_readClause_109 rfl rfl ?_
          refine x_bipush (pc := 110) (v := 99) dX3_readClause_110 (by decide) ?_
          refine x_icmp_ne (pc := 112) (tgt := 120) dX3_readClause_112 (by decide) (fun c112 => ?_) (fun c112 => ?_)
          · skip
            refine x_bipush (pc := 120) (v := 89) dX3_readClause_120 (by decide) ?_
            refine x_iconst (pc := 122) (v := 0) dX3_readClause_122 (by decide) ?_
            refine x_iload (pc := 123) dX3_readClause_123 rfl ?_
            refine x_callV (pc := 125) (As := [.int _, .int _, .int _]) dX3_readClause_125 km_X4_add kv_X4_add kl_RX3_69 hG.g_draft.1 rfl rfl (by decide) ⟨Nat.le_refl _, Nat.le_refl _⟩ rfl (Nat.le_of_ble_eq_true rfl) (Nat.le_of_ble_eq_true rfl) (c_rgAdd (p := 89) (s := 0) (k := k) hG.g_draft h3.2.2.2.1 (fun J4 d4 f4 => ⟨rfl, rfl, ?_⟩))
            refine x_iconst (pc := 128) (v := 1) dX3_readClause_128 (by decide) ?_
            refine x_ireturn (pc := 129) dX3_readClause_129 ⟨_, rfl, by decide⟩ ⟨Nat.le_refl _, Nat.le_refl _⟩ ?_
            have g3 : q + 1 + e3.1.length ≤ q3 := (pd_gd hp e3 rfl).2.2.1
            have hl5 := h2.2.2.2.2
            have ff := ((f1.tr (rdP.ne f2)).tr (rdP.nx.tr f3)).tr (rdP.rg f4)
            refine K1 J4 q3 (i, k, e3) (Or.inr (Or.inr ⟨q, k, by rw [hw0]; exact w1, by rw [hw0]; exact hn, Or.inr (Or.inr ⟨by omega, hc, Or.inr ⟨q3, e3, hp, by rw [hw0]⟩⟩)⟩)) (h3.ad hx f4 d4 (by rw [List.length_append]; omega) ?_) ?_ ff.q
            · show l ++ (if i = 0 then [] else e3.1 ++ [(if i = 1 then 67 else 89, 0, k)]) = _
              rw [if_neg (by omega), ← List.append_assoc]
              first
              | rw [if_pos (h9.mp ((nC_eq (c := 99) (by decide)).mp c112))]
              | rw [if_neg (fun z => c112 ((nC_eq (c := 99) (by decide)).mpr (h9.mpr z)))]
            · show J4 (rd + 3) 3 = (if i = 0 then nI k else I (rd + 3) 3)
              rw [if_neg (by omega)]
              exact congrFun (ff (rd + 3) (by omega)) 3
          · skip
            refine x_bipush (pc := 115) (v := 67) dX3_readClause_115 (by decide) ?_
            refine x_goto (pc := 117) (tgt := 122) dX3_readClause_117 (by decide) ?_
            refine x_iconst (pc := 122) (v := 0) dX3_readClause_122 (by decide) ?_
            refine x_iload (pc := 123) dX3_readClause_123 rfl ?_
            refine x_callV (pc := 125) (As := [.int _, .int _, .int _]) dX3_readClause_125 km_X4_add kv_X4_add kl_RX3_69 hG.g_draft.1 rfl rfl (by decide) ⟨Nat.le_refl _, Nat.le_refl _⟩ rfl (Nat.le_of_ble_eq_true rfl) (Nat.le_of_ble_eq_true rfl) (c_rgAdd (p := 67) (s := 0) (k := k) hG.g_draft h3.2.2.2.1 (fun J4 d4 f4 => ⟨rfl, rfl, ?_⟩))
            refine x_iconst (pc := 128) (v := 1) dX3_readClause_128 (by decide) ?_
            refine x_ireturn (pc := 129) dX3_readClause_129 ⟨_, rfl, by decide⟩ ⟨Nat.le_refl _, Nat.le_refl _⟩ ?_
            have g3 : q + 1 + e3.1.length ≤ q3 := (pd_gd hp e3 rfl).2.2.1
            have hl5 := h2.2.2.2.2
            have ff := ((f1.tr (rdP.ne f2)).tr (rdP.nx.tr f3)).tr (rdP.rg f4)
            refine K1 J4 q3 (i, k, e3) (Or.inr (Or.inr ⟨q, k, by rw [hw0]; exact w1, by rw [hw0]; exact hn, Or.inr (Or.inr ⟨by omega, hc, Or.inr ⟨q3, e3, hp, by rw [hw0]⟩⟩)⟩)) (h3.ad hx f4 d4 (by rw [List.length_append]; omega) ?_) ?_ ff.q
            · show l ++ (if i = 0 then [] else e3.1 ++ [(if i = 1 then 67 else 89, 0, k)]) = _
              rw [if_neg (by omega), ← List.append_assoc]
              first
              | rw [if_pos (h9.mp ((nC_eq (c := 99) (by decide)).mp c112))]
              | rw [if_neg (fun z => c112 ((nC_eq (c := 99) (by decide)).mpr (h9.mpr z)))]
            · show J4 (rd + 3) 3 = (if i = 0 then nI k else I (rd + 3) 3)
              rw [if_neg (by omega)]
              exact congrFun (ff (rd + 3) (by omega)) 3
        · skip
          refine x_if_ne_f (pc := 100) (tgt := 105) dX3_readClause_100 (by decide) (by decide) ?_
          refine x_iconst (pc := 103) (v := 0) dX3_readClause_103 (by decide) ?_
          refine x_ireturn (pc := 104) dX3_readClause_104 ⟨_, rfl, by decide⟩ ⟨Nat.le_refl _, Nat.le_refl _⟩ ?_
          first
          | exact K0 _ _ (Or.inr (Or.inr ⟨q, k, by rw [hw0]; exact w1, by rw [hw0]; exact hn, Or.inr (Or.inr ⟨by omega, hc, Or.inl ⟨q3, hp, rfl⟩⟩)⟩)) h3 (((f1.tr (rdP.ne f2)).tr (rdP.nx.tr f3)).q)
          | exact K0 _ _ (Or.inr (Or.inr ⟨q, k, by rw [hw0]; exact w1, by rw [hw0]; exact hn, Or.inr (Or.inl ⟨by omega, hc, rfl⟩)⟩)) h2.x ((f1.tr (rdP.ne f2)).q)
      · skip
        refine x_if_eq_t (pc := 92) (tgt := 103) dX3_readClause_92 (by decide) (by decide) ?_
        refine x_iconst (pc := 103) (v := 0) dX3_readClause_103 (by decide) ?_
        refine x_ireturn (pc := 104) dX3_readClause_104 ⟨_, rfl, by decide⟩ ⟨Nat.le_refl _, Nat.le_refl _⟩ ?_
        first
        | exact K0 _ _ (Or.inr (Or.inr ⟨q, k, by rw [hw0]; exact w1, by rw [hw0]; exact hn, Or.inr (Or.inr ⟨by omega, hc, Or.inl ⟨q3, hp, rfl⟩⟩)⟩)) h3 (((f1.tr (rdP.ne f2)).tr (rdP.nx.tr f3)).q)
        | exact K0 _ _ (Or.inr (Or.inr ⟨q, k, by rw [hw0]; exact w1, by rw [hw0]; exact hn, Or.inr (Or.inl ⟨by omega, hc, rfl⟩)⟩)) h2.x ((f1.tr (rdP.ne f2)).q)
    · skip
      refine x_istore (pc := 61) (lv' := [(0, .ref rd), (1, .int (nC (nxX t p))), (2, .int 0), (3, .ref (1000001 + i)), (4, .int (-1))]) dX3_readClause_61 (by decide) rfl ?_
      refine x_iload (pc := 63) dX3_readClause_63 rfl ?_
      refine x_iconst (pc := 65) (v := -1) dX3_readClause_65 (by decide) ?_
      refine x_icmp_ne_f (pc := 66) (tgt := 71) dX3_readClause_66 (by decide) (by decide) ?_
      refine x_iconst (pc := 69) (v := 0) dX3_readClause_69 (by decide) ?_
      refine x_ireturn (pc := 70) dX3_readClause_70 ⟨_, rfl, by decide⟩ ⟨Nat.le_refl _, Nat.le_refl _⟩ ?_
      exact K0 J1 _ (Or.inr (Or.inl ⟨by rw [hw0]; exact w1, by rw [hw0]; exact hn, by rw [hw0]⟩)) h1.x f1.q
  · skip
    refine x_if_ne_f (pc := 52) (tgt := 57) dX3_readClause_52 (by decide) (by decide) ?_
    refine x_iconst (pc := 55) (v := 0) dX3_readClause_55 (by decide) ?_
    refine x_ireturn (pc := 56) dX3_readClause_56 ⟨_, rfl, by decide⟩ ⟨Nat.le_refl _, Nat.le_refl _⟩ ?_
    exact K0 J1 _ (Or.inl ⟨by rw [hw0]; exact w1, by rw [hw0]⟩) h1.x f1.q

set_option maxHeartbeats 4000000 in
set_option maxRecDepth 100000 in
theorem c_readClause {T : xT} {n : Nat} {sh : Nat → Nat × Nat} {I : xI} {R : xR} {L : xL} {P : xPost} {lr nw im tr rd hu se ac M : Nat} (hG : GEO sh R lr nw im tr rd hu se ac M) {t : xX} (hx : XOK t) {p : Nat} {l : List (Nat × Nat × Nat)} (hs : RDS I rd t p l) (K1 : ∀ (J : xI) (q : Nat) (x : xCL), CLR (nxX t) p (q, some x) → RDS J rd t q (l ++ clL x) → J (rd + 3) 3 = (if x.1 = 0 then nI x.2.1 else I (rd + 3) 3) → rdQ rd I J → P (n, sh, 0, 0) J R L (some (.int 1))) (K0 : ∀ (J : xI) (q : Nat), CLR (nxX t) p (q, none) → RDX J rd t q → rdQ rd I J → P (n, sh, 0, 0) J R L (some (.int 0)))  : XM T zX3_readClause 17 [.ref rd] n sh I R L P := by
  refine x_aload_n (pc := 0) dX3_readClause_0 rfl rfl ?_
  refine x_getr (pc := 1) dX3_readClause_1 kf_RX3_14 hG.g_rd rfl hG.g_rd0 ?_
  refine x_aload_n (pc := 4) dX3_readClause_4 rfl rfl ?_
  refine x_get (pc := 5) dX3_readClause_5 kf_RX3_27 hG.g_rd rfl ?_
  refine x_callV (pc := 8) (As := [.int _]) dX3_readClause_8 km_X5_at kv_X5_at kl_RX3_45 hG.g_text.1 rfl rfl (by decide) ⟨Nat.le_refl _, Nat.le_refl _⟩ rfl (Nat.le_of_ble_eq_true rfl) (Nat.le_of_ble_eq_true rfl) (c_at hG.g_text (⟨rfl, rfl, ?_⟩))
  rw [hs.2.1, nC_at hs.1 hx (by have := hs.2.2.1; have := hx.1; omega)]
  refine x_istore_n (pc := 11) (lv' := [(0, .ref rd), (1, .int (nC (nxX t p)))]) dX3_readClause_11 rfl (by decide) rfl ?_
  refine x_iload_n (pc := 12) dX3_readClause_12 rfl rfl ?_
  refine x_bipush (pc := 13) (v := 108) dX3_readClause_13 (by decide) ?_
  refine x_icmp_ne (pc := 15) (tgt := 22) dX3_readClause_15 (by decide) (fun c15 => ?_) (fun c15 => ?_)
  · skip
    refine x_iconst (pc := 22) (v := 0) dX3_readClause_22 (by decide) ?_
    refine x_istore_n (pc := 23) (lv' := [(0, .ref rd), (1, .int (nC (nxX t p))), (2, .int 0)]) dX3_readClause_23 rfl (by decide) rfl ?_
    refine x_iload_n (pc := 24) dX3_readClause_24 rfl rfl ?_
    refine x_if_eq_t (pc := 25) (tgt := 33) dX3_readClause_25 (by decide) (by decide) ?_
    refine x_iload_n (pc := 33) dX3_readClause_33 rfl rfl ?_
    refine x_bipush (pc := 34) (v := 99) dX3_readClause_34 (by decide) ?_
    refine x_icmp_ne (pc := 36) (tgt := 44) dX3_readClause_36 (by decide) (fun c36 => ?_) (fun c36 => ?_)
    · skip
      refine x_ldcS (pc := 44) (i := 2) rfl (by decide) dX3_readClause_44 ?_
      refine x_astore_n (pc := 46) (lv' := [(0, .ref rd), (1, .int (nC (nxX t p))), (2, .int 0), (3, .ref 1000003)]) dX3_readClause_46 rfl (by decide) rfl ?_
      have n8 : ¬ nxX t p = 108 := fun z => c15 ((nC_eq (c := 108) (by decide)).mpr z)
      have e9 : ¬ nxX t p = 99 := fun z => c36 ((nC_eq (c := 99) (by decide)).mpr z)
      exact X.keep [0, 1, 2, 3] rfl (l_clX (i := 2) hG hx hs (by decide) (by decide) ⟨fun z => absurd z e9, fun z => absurd z (by decide)⟩ ((if_neg n8).trans (if_neg e9)) K1 K0)
    · skip
      refine x_ldcS (pc := 39) (i := 1) rfl (by decide) dX3_readClause_39 ?_
      refine x_goto (pc := 41) (tgt := 46) dX3_readClause_41 (by decide) ?_
      refine x_astore_n (pc := 46) (lv' := [(0, .ref rd), (1, .int (nC (nxX t p))), (2, .int 0), (3, .ref 1000002)]) dX3_readClause_46 rfl (by decide) rfl ?_
      have n8 : ¬ nxX t p = 108 := fun z => c15 ((nC_eq (c := 108) (by decide)).mpr z)
      have e9 : nxX t p = 99 := (nC_eq (c := 99) (by decide)).mp c36
      exact X.keep [0, 1, 2, 3] rfl (l_clX (i := 1) hG hx hs (by decide) (by decide) ⟨fun _ => rfl, fun _ => e9⟩ ((if_neg n8).trans (if_pos e9)) K1 K0)
  · skip
    refine x_iconst (pc := 18) (v := 1) dX3_readClause_18 (by decide) ?_
    refine x_goto (pc := 19) (tgt := 23) dX3_readClause_19 (by decide) ?_
    refine x_istore_n (pc := 23) (lv' := [(0, .ref rd), (1, .int (nC (nxX t p))), (2, .int 1)]) dX3_readClause_23 rfl (by decide) rfl ?_
    refine x_iload_n (pc := 24) dX3_readClause_24 rfl rfl ?_
    refine x_if_eq_f (pc := 25) (tgt := 33) dX3_readClause_25 (by decide) (by decide) ?_
    refine x_ldcS (pc := 28) (i := 0) rfl (by decide) dX3_readClause_28 ?_
    refine x_goto (pc := 30) (tgt := 46) dX3_readClause_30 (by decide) ?_
    refine x_astore_n (pc := 46) (lv' := [(0, .ref rd), (1, .int (nC (nxX t p))), (2, .int 1), (3, .ref 1000001)]) dX3_readClause_46 rfl (by decide) rfl ?_
    exact X.keep [0, 1, 2, 3] rfl (l_clL hG hx hs (if_pos ((nC_eq (c := 108) (by decide)).mp c15)) K1 K0)

