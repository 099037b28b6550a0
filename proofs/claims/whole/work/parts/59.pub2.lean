/-! ===== trace (the reference), count, of ===== -/
theorem trace_in {x : Int32} {r : Nat} (hr : r < 2 ^ 30) (h1 : ¬ x < 0) (h2 : ¬ 19 < x) (h3 : ¬ nI r ≤ x) : ∃ k, k < mn r 20 ∧ x = nI k := by
  obtain ⟨k, hk, rfl⟩ := nI_of h1
  refine ⟨k, ?_, rfl⟩
  have a1 : k ≤ 19 := by
    rcases Nat.lt_or_ge 19 k with q | q
    · exact absurd ((nI_ltI (a := 19) (by decide) hk).mpr q) h2
    · exact q
  have a2 : k < r := by
    rcases Nat.lt_or_ge k r with q | q
    · exact q
    · exact absurd (nI_le q hk) h3
  unfold mn
  split <;> omega
theorem trace_out {x : Int32} {r : Nat} (hr : r < 2 ^ 30) (h : x < 0 ∨ 19 < x ∨ nI r ≤ x) : x < 0 ∨ nI (mn r 20) ≤ x := by
  rcases h with h | h | h
  · exact Or.inl h
  · refine Or.inr ?_
    have h1 := Int32.lt_iff_toInt_lt.mp h
    have h2 : (19 : Int32).toInt = 19 := rfl
    refine Int32.le_iff_toInt_le.mpr ?_
    rw [nI_toInt (show mn r 20 < 2 ^ 31 by unfold mn; split <;> omega)]
    unfold mn
    split <;> omega
  · refine Or.inr ?_
    have h1 := Int32.le_iff_toInt_le.mp h
    rw [nI_toInt (by omega)] at h1
    refine Int32.le_iff_toInt_le.mpr ?_
    rw [nI_toInt (show mn r 20 < 2 ^ 31 by unfold mn; split <;> omega)]
    unfold mn
    split <;> omega

set_option maxHeartbeats 4000000 in
set_option maxRecDepth 100000 in
theorem m_trace {T : xT} {n : Nat} {sh : Nat → Nat × Nat} {I : xI} {R : xR} {L : xL} {P : xPost} {M : Nat} (hM : xModel sh R M) {r : Nat} {f : Nat → Nat} {x : Int32} (hr : r < 2 ^ 30) (hn : I M 64 = nI r) (hb : ∀ i, i < mn r 20 → I (M + 35) i = nI (f i)) (K : P (n, sh, 0, 0) I R L (some (.int (spTrace (mn r 20) f x))))  : XM T zX10_trace 1 [.ref M, .int x] n sh I R L P := by
  refine x_aload_n (pc := 0) dX10_trace_0 rfl rfl ?_
  refine x_iload_n (pc := 1) dX10_trace_1 rfl rfl ?_
  refine x_iconst (pc := 2) (v := 0) dX10_trace_2 (by decide) ?_
  refine x_bipush (pc := 3) (v := 19) dX10_trace_3 (by decide) ?_
  refine x_callV (pc := 5) (As := [.int _, .int _, .int _]) dX10_trace_5 km_X10_in kv_X10_in kl_RX10_231 hM.s rfl rfl (by decide) ⟨Nat.le_refl _, Nat.le_refl _⟩ rfl (Nat.le_of_ble_eq_true rfl) (Nat.le_of_ble_eq_true rfl) (m_in hM.s (fun h1 h2 => ⟨rfl, rfl, ?_⟩) (fun h1 => ⟨rfl, rfl, ?_⟩))
  · skip
    refine x_if_eq_f (pc := 8) (tgt := 28) dX10_trace_8 (by decide) (by decide) ?_
    refine x_iload_n (pc := 11) dX10_trace_11 rfl rfl ?_
    refine x_aload_n (pc := 12) dX10_trace_12 rfl rfl ?_
    refine x_get (pc := 13) dX10_trace_13 kf_RX10_205 hM.s rfl ?_
    rw [hn]
    refine x_icmp_ge (pc := 16) (tgt := 28) dX10_trace_16 (by decide) (fun c16 => ?_) (fun c16 => ?_)
    · skip
      refine x_iconst (pc := 28) (v := -1) dX10_trace_28 (by decide) ?_
      refine x_ireturn (pc := 29) dX10_trace_29 ⟨_, rfl, rfl⟩ ⟨Nat.le_refl _, Nat.le_refl _⟩ ?_
      have q9 : x < 0 ∨ nI (mn r 20) ≤ x := trace_out hr (by first | exact Or.inr (Or.inr c16) | exact h1.elim Or.inl (fun q => Or.inr (Or.inl q)))
      rw [spTrace_n q9] at K
      exact K
    · skip
      obtain ⟨k, hk, ek⟩ := trace_in hr h1 h2 c16
      subst ek
      have hk20 : k < 20 := Nat.lt_of_lt_of_le hk mn_le
      refine x_aload_n (pc := 19) dX10_trace_19 rfl rfl ?_
      refine x_getr (pc := 20) dX10_trace_20 kf_RX10_208 hM.s rfl hM.f34 ?_
      refine x_iload_n (pc := 23) dX10_trace_23 rfl rfl ?_
      refine x_ialdn (pc := 24) (a := k) dX10_trace_24 hM.s34 (by omega) (by omega) ?_
      refine x_goto (pc := 25) (tgt := 29) dX10_trace_25 (by decide) ?_
      refine x_ireturn (pc := 29) dX10_trace_29 ⟨_, rfl, rfl⟩ ⟨Nat.le_refl _, Nat.le_refl _⟩ ?_
      rw [spTrace_s hk mn_le] at K
      rw [hb k hk]
      exact K
  · skip
    refine x_if_eq_t (pc := 8) (tgt := 28) dX10_trace_8 (by decide) (by decide) ?_
    refine x_iconst (pc := 28) (v := -1) dX10_trace_28 (by decide) ?_
    refine x_ireturn (pc := 29) dX10_trace_29 ⟨_, rfl, rfl⟩ ⟨Nat.le_refl _, Nat.le_refl _⟩ ?_
    have q9 : x < 0 ∨ nI (mn r 20) ≤ x := trace_out hr (by first | exact Or.inr (Or.inr c16) | exact h1.elim Or.inl (fun q => Or.inr (Or.inl q)))
    rw [spTrace_n q9] at K
    exact K

def spCount (V : xV) (rc fed ran : Nat) (x : Int32) : Int32 := if x = 0 then nI (V 8 0) else if x = 1 then nI rc else if x = 2 then nI (V 8 4) else if x = 3 then nI (V 8 5) else if x = 4 then nI fed else if x = 5 then nI (V 8 2) else if x = 6 then nI ran else if x = 7 then nI (V 8 1) else -2

set_option maxHeartbeats 4000000 in
set_option maxRecDepth 100000 in
theorem c_count {T : xT} {n : Nat} {sh : Nat → Nat × Nat} {I : xI} {R : xR} {L : xL} {P : xPost} {lr nw im tr rd hu se ac M : Nat} (hG : GEO sh R lr nw im tr rd hu se ac M) {V : xV} {B : Nat} (h : FSC I nw V) (hv : VOK V B) {rc fed ran : Nat} {x : Int32} (hrc : I lr 6 = nI rc) (hfe : I (rd + 1) 1 = nI fed) (hra : I ac 1 = nI ran) (K : P (n, sh, 0, 0) I R L (some (.int (spCount V rc fed ran x))))  : XM T zX9_count 1 [.ref lr, .int x] n sh I R L P := by
  obtain ⟨v6, v12, v10, vb, vf, vw, vm, vta, vte, vod, vrg, vdi⟩ := id hv
  have r0 : bRow I (nw + 1) (V 8 0) (V 0) := h.row 0 (by decide)
  have r1 : bRow I (nw + 3) (V 8 0) (V 1) := h.row 1 (by decide)
  have r2 : bRow I (nw + 5) (V 8 0) (V 2) := h.row 2 (by decide)
  have r3 : bRow I (nw + 7) (V 8 0) (V 3) := h.row 3 (by decide)
  have r4 : bRow I (nw + 9) (V 8 0) (V 4) := h.row 4 (by decide)
  have r5 : bRow I (nw + 11) (V 8 0) (V 5) := h.row 5 (by decide)
  have r6 : bRow I (nw + 13) (V 8 4) (V 6) := h.row 6 (by decide)
  have r7 : bRow I (nw + 15) (V 8 5) (V 7) := h.row 7 (by decide)
  refine x_iload_n (pc := 0) dX9_count_0 rfl rfl ?_
  refine x_tsw (pc := 1) (dt := 118) [(0, 48), (1, 56), (2, 61), (3, 72), (4, 83), (5, 94), (6, 102), (7, 110)] dX9_count_1 (by decide +kernel) (by decide) ?_
  refine xsw_c (fun c1 => ?_) (fun n1_0 => ?_)
  · skip
    refine x_aload_n (pc := 48) dX9_count_48 rfl rfl ?_
    refine x_getr (pc := 49) dX9_count_49 kf_RX9_12 hG.g_x rfl hG.g_f0 ?_
    refine x_callV (pc := 52) (As := []) dX9_count_52 km_X6_size kv_X6_size kl_RX9_94 hG.g_nw.1 rfl rfl (by decide) ⟨Nat.le_refl _, Nat.le_refl _⟩ rfl (Nat.le_of_ble_eq_true rfl) (Nat.le_of_ble_eq_true rfl) (c_size hG.g_nw r2 v6 (⟨rfl, rfl, ?_⟩))
    refine x_ireturn (pc := 55) dX9_count_55 ⟨_, rfl, rfl⟩ ⟨Nat.le_refl _, Nat.le_refl _⟩ ?_
    unfold spCount at K
    rw [if_pos c1] at K
    exact K
  refine xsw_c (fun c1 => ?_) (fun n1_1 => ?_)
  · skip
    refine x_aload_n (pc := 56) dX9_count_56 rfl rfl ?_
    refine x_get (pc := 57) dX9_count_57 kf_RX9_41 hG.g_x rfl ?_
    rw [hrc]
    refine x_ireturn (pc := 60) dX9_count_60 ⟨_, rfl, rfl⟩ ⟨Nat.le_refl _, Nat.le_refl _⟩ ?_
    unfold spCount at K
    rw [if_neg n1_0, if_pos c1] at K
    exact K
  refine xsw_c (fun c1 => ?_) (fun n1_2 => ?_)
  · skip
    refine x_aload_n (pc := 61) dX9_count_61 rfl rfl ?_
    refine x_getr (pc := 62) dX9_count_62 kf_RX9_12 hG.g_x rfl hG.g_f0 ?_
    refine x_getr (pc := 65) dX9_count_65 kf_RX9_206 hG.g_nw.1 rfl hG.g_nw.2.2.2.2.2.2.2.2.2.1 ?_
    refine x_get (pc := 68) dX9_count_68 kf_RX9_165 hG.g_nw.2.2.2.2.2.2.2.2.2.2.2.2.2.2.2.2.2.1.1 rfl ?_
    rw [r6.1]
    refine x_ireturn (pc := 71) dX9_count_71 ⟨_, rfl, rfl⟩ ⟨Nat.le_refl _, Nat.le_refl _⟩ ?_
    unfold spCount at K
    rw [if_neg n1_0, if_neg n1_1, if_pos c1] at K
    exact K
  refine xsw_c (fun c1 => ?_) (fun n1_3 => ?_)
  · skip
    refine x_aload_n (pc := 72) dX9_count_72 rfl rfl ?_
    refine x_getr (pc := 73) dX9_count_73 kf_RX9_12 hG.g_x rfl hG.g_f0 ?_
    refine x_getr (pc := 76) dX9_count_76 kf_RX9_280 hG.g_nw.1 rfl hG.g_nw.2.2.2.2.2.2.2.2.2.2.1 ?_
    refine x_get (pc := 79) dX9_count_79 kf_RX9_165 hG.g_nw.2.2.2.2.2.2.2.2.2.2.2.2.2.2.2.2.2.2.1 rfl ?_
    rw [r7.1]
    refine x_ireturn (pc := 82) dX9_count_82 ⟨_, rfl, rfl⟩ ⟨Nat.le_refl _, Nat.le_refl _⟩ ?_
    unfold spCount at K
    rw [if_neg n1_0, if_neg n1_1, if_neg n1_2, if_pos c1] at K
    exact K
  refine xsw_c (fun c1 => ?_) (fun n1_4 => ?_)
  · skip
    refine x_aload_n (pc := 83) dX9_count_83 rfl rfl ?_
    refine x_getr (pc := 84) dX9_count_84 kf_RX9_31 hG.g_x rfl hG.g_f4 ?_
    refine x_getr (pc := 87) dX9_count_87 kf_RX9_162 hG.g_rd rfl hG.g_rd0 ?_
    refine x_get (pc := 90) dX9_count_90 kf_RX9_165 hG.g_text.1 rfl ?_
    rw [hfe]
    refine x_ireturn (pc := 93) dX9_count_93 ⟨_, rfl, rfl⟩ ⟨Nat.le_refl _, Nat.le_refl _⟩ ?_
    unfold spCount at K
    rw [if_neg n1_0, if_neg n1_1, if_neg n1_2, if_neg n1_3, if_pos c1] at K
    exact K
  refine xsw_c (fun c1 => ?_) (fun n1_5 => ?_)
  · skip
    refine x_aload_n (pc := 94) dX9_count_94 rfl rfl ?_
    refine x_getr (pc := 95) dX9_count_95 kf_RX9_12 hG.g_x rfl hG.g_f0 ?_
    refine x_get (pc := 98) dX9_count_98 kf_RX9_326 hG.g_nw.1 rfl ?_
    rw [h.2.2.1]
    refine x_ireturn (pc := 101) dX9_count_101 ⟨_, rfl, rfl⟩ ⟨Nat.le_refl _, Nat.le_refl _⟩ ?_
    unfold spCount at K
    rw [if_neg n1_0, if_neg n1_1, if_neg n1_2, if_neg n1_3, if_neg n1_4, if_pos c1] at K
    exact K
  refine xsw_c (fun c1 => ?_) (fun n1_6 => ?_)
  · skip
    refine x_aload_n (pc := 102) dX9_count_102 rfl rfl ?_
    refine x_getr (pc := 103) dX9_count_103 kf_RX9_62 hG.g_x rfl hG.g_f9 ?_
    refine x_get (pc := 106) dX9_count_106 kf_RX9_329 hG.g_ac rfl ?_
    rw [hra]
    refine x_ireturn (pc := 109) dX9_count_109 ⟨_, rfl, rfl⟩ ⟨Nat.le_refl _, Nat.le_refl _⟩ ?_
    unfold spCount at K
    rw [if_neg n1_0, if_neg n1_1, if_neg n1_2, if_neg n1_3, if_neg n1_4, if_neg n1_5, if_pos c1] at K
    exact K
  refine xsw_c (fun c1 => ?_) (fun n1_7 => ?_)
  · skip
    refine x_aload_n (pc := 110) dX9_count_110 rfl rfl ?_
    refine x_getr (pc := 111) dX9_count_111 kf_RX9_12 hG.g_x rfl hG.g_f0 ?_
    refine x_get (pc := 114) dX9_count_114 kf_RX9_88 hG.g_nw.1 rfl ?_
    rw [h.2.1]
    refine x_ireturn (pc := 117) dX9_count_117 ⟨_, rfl, rfl⟩ ⟨Nat.le_refl _, Nat.le_refl _⟩ ?_
    unfold spCount at K
    rw [if_neg n1_0, if_neg n1_1, if_neg n1_2, if_neg n1_3, if_neg n1_4, if_neg n1_5, if_neg n1_6, if_pos c1] at K
    exact K
  refine xsw_n ?_
  refine x_bipush (pc := 118) (v := -2) dX9_count_118 (by decide) ?_
  refine x_ireturn (pc := 120) dX9_count_120 ⟨_, rfl, rfl⟩ ⟨Nat.le_refl _, Nat.le_refl _⟩ ?_
  unfold spCount at K
  rw [if_neg n1_0, if_neg n1_1, if_neg n1_2, if_neg n1_3, if_neg n1_4, if_neg n1_5, if_neg n1_6, if_neg n1_7] at K
  exact K

set_option maxHeartbeats 4000000 in
set_option maxRecDepth 100000 in
theorem m_count {T : xT} {n : Nat} {sh : Nat → Nat × Nat} {I : xI} {R : xR} {L : xL} {P : xPost} {M : Nat} (hM : xModel sh R M) {V : xV} (h : MDV I M V) {rc fed ran : Nat} {x : Int32} (hrc : I M 10 = nI rc) (hfe : I M 12 = nI fed) (hra : I M 64 = nI ran) (K : P (n, sh, 0, 0) I R L (some (.int (spCount V rc fed ran x))))  : XM T zX10_count 0 [.ref M, .int x] n sh I R L P := by
  refine x_iload_n (pc := 0) dX10_count_0 rfl rfl ?_
  refine x_tsw (pc := 1) (dt := 88) [(0, 48), (1, 53), (2, 58), (3, 63), (4, 68), (5, 73), (6, 78), (7, 83)] dX10_count_1 (by decide +kernel) (by decide) ?_
  refine xsw_c (fun c1 => ?_) (fun n1_0 => ?_)
  · skip
    refine x_aload_n (pc := 48) dX10_count_48 rfl rfl ?_
    refine x_get (pc := 49) dX10_count_49 kf_RX10_7 hM.s rfl ?_
    rw [h.1]
    refine x_ireturn (pc := 52) dX10_count_52 ⟨_, rfl, rfl⟩ ⟨Nat.le_refl _, Nat.le_refl _⟩ ?_
    unfold spCount at K
    rw [if_pos c1] at K
    exact K
  refine xsw_c (fun c1 => ?_) (fun n1_1 => ?_)
  · skip
    refine x_aload_n (pc := 53) dX10_count_53 rfl rfl ?_
    refine x_get (pc := 54) dX10_count_54 kf_RX10_41 hM.s rfl ?_
    rw [hrc]
    refine x_ireturn (pc := 57) dX10_count_57 ⟨_, rfl, rfl⟩ ⟨Nat.le_refl _, Nat.le_refl _⟩ ?_
    unfold spCount at K
    rw [if_neg n1_0, if_pos c1] at K
    exact K
  refine xsw_c (fun c1 => ?_) (fun n1_2 => ?_)
  · skip
    refine x_aload_n (pc := 58) dX10_count_58 rfl rfl ?_
    refine x_get (pc := 59) dX10_count_59 kf_RX10_126 hM.s rfl ?_
    rw [h.2.2.2.2.1]
    refine x_ireturn (pc := 62) dX10_count_62 ⟨_, rfl, rfl⟩ ⟨Nat.le_refl _, Nat.le_refl _⟩ ?_
    unfold spCount at K
    rw [if_neg n1_0, if_neg n1_1, if_pos c1] at K
    exact K
  refine xsw_c (fun c1 => ?_) (fun n1_3 => ?_)
  · skip
    refine x_aload_n (pc := 63) dX10_count_63 rfl rfl ?_
    refine x_get (pc := 64) dX10_count_64 kf_RX10_150 hM.s rfl ?_
    rw [h.2.2.2.2.2.1]
    refine x_ireturn (pc := 67) dX10_count_67 ⟨_, rfl, rfl⟩ ⟨Nat.le_refl _, Nat.le_refl _⟩ ?_
    unfold spCount at K
    rw [if_neg n1_0, if_neg n1_1, if_neg n1_2, if_pos c1] at K
    exact K
  refine xsw_c (fun c1 => ?_) (fun n1_4 => ?_)
  · skip
    refine x_aload_n (pc := 68) dX10_count_68 rfl rfl ?_
    refine x_get (pc := 69) dX10_count_69 kf_RX10_47 hM.s rfl ?_
    rw [hfe]
    refine x_ireturn (pc := 72) dX10_count_72 ⟨_, rfl, rfl⟩ ⟨Nat.le_refl _, Nat.le_refl _⟩ ?_
    unfold spCount at K
    rw [if_neg n1_0, if_neg n1_1, if_neg n1_2, if_neg n1_3, if_pos c1] at K
    exact K
  refine xsw_c (fun c1 => ?_) (fun n1_5 => ?_)
  · skip
    refine x_aload_n (pc := 73) dX10_count_73 rfl rfl ?_
    refine x_get (pc := 74) dX10_count_74 kf_RX10_16 hM.s rfl ?_
    rw [h.2.2.1]
    refine x_ireturn (pc := 77) dX10_count_77 ⟨_, rfl, rfl⟩ ⟨Nat.le_refl _, Nat.le_refl _⟩ ?_
    unfold spCount at K
    rw [if_neg n1_0, if_neg n1_1, if_neg n1_2, if_neg n1_3, if_neg n1_4, if_pos c1] at K
    exact K
  refine xsw_c (fun c1 => ?_) (fun n1_6 => ?_)
  · skip
    refine x_aload_n (pc := 78) dX10_count_78 rfl rfl ?_
    refine x_get (pc := 79) dX10_count_79 kf_RX10_205 hM.s rfl ?_
    rw [hra]
    refine x_ireturn (pc := 82) dX10_count_82 ⟨_, rfl, rfl⟩ ⟨Nat.le_refl _, Nat.le_refl _⟩ ?_
    unfold spCount at K
    rw [if_neg n1_0, if_neg n1_1, if_neg n1_2, if_neg n1_3, if_neg n1_4, if_neg n1_5, if_pos c1] at K
    exact K
  refine xsw_c (fun c1 => ?_) (fun n1_7 => ?_)
  · skip
    refine x_aload_n (pc := 83) dX10_count_83 rfl rfl ?_
    refine x_get (pc := 84) dX10_count_84 kf_RX10_13 hM.s rfl ?_
    rw [h.2.1]
    refine x_ireturn (pc := 87) dX10_count_87 ⟨_, rfl, rfl⟩ ⟨Nat.le_refl _, Nat.le_refl _⟩ ?_
    unfold spCount at K
    rw [if_neg n1_0, if_neg n1_1, if_neg n1_2, if_neg n1_3, if_neg n1_4, if_neg n1_5, if_neg n1_6, if_pos c1] at K
    exact K
  refine xsw_n ?_
  refine x_bipush (pc := 88) (v := -2) dX10_count_88 (by decide) ?_
  refine x_ireturn (pc := 90) dX10_count_90 ⟨_, rfl, rfl⟩ ⟨Nat.le_refl _, Nat.le_refl _⟩ ?_
  unfold spCount at K
  rw [if_neg n1_0, if_neg n1_1, if_neg n1_2, if_neg n1_3, if_neg n1_4, if_neg n1_5, if_neg n1_6, if_neg n1_7] at K
  exact K

def ofK (V : xV) (o : Option xAR) (b : Nat) (y : Int32) : Int32 := if y = 0 then nI (V 0 b) else if y = 1 then nI (V 1 b) else if y = 2 then nI (V 2 b) else if y = 3 then nI (V 3 b) else if y = 4 then nI (V 4 b) else if y = 5 then nI (ylOf (lnAt (lnO o) (V 8 0) (V 2) (V 4) (V 8 2) b) 0) else if y = 6 then nI (clOf (lnAt (lnO o) (V 8 0) (V 2) (V 4) (V 8 2) b) (V 0 b) (V 1 b) 0) else if y = 7 then nI (deedN (V 8 0) (V 0) (V 1) (V 2) (V 3) (V 4) (V 8 1) (V 8 2) 0 (lnO o) b).1 else -1
def spOf (V : xV) (o : Option xAR) (x y : Int32) : Int32 := match idx (V 8 0) x with
  | none => -1
  | some b => ofK V o b y
theorem spOf_n {V : xV} {o : Option xAR} {x y : Int32} (h : x < 0 ∨ nI (V 8 0) ≤ x) : spOf V o x y = -1 := by
  unfold spOf
  rw [idx_n h]
theorem spOf_s {V : xV} {o : Option xAR} {b : Nat} {y : Int32} (hb : b < V 8 0) (h6 : V 8 0 ≤ 6) : spOf V o (nI b) y = ofK V o b y := by
  unfold spOf
  rw [idx_s hb (by omega)]
theorem FSC.keep14 {I I' : xI} {b : Nat} {V : xV} (h : FSC I b V) (h1 : ∀ a, a ≠ b + 17 → a ≠ b → I' a = I a) (h2 : ∀ k, k ≠ 14 → I' b k = I b k) : FSC I' b V := by
  obtain ⟨a1, a2, a3, a4, a5⟩ := h
  refine ⟨fun j hj => ?_, (h2 8 (by decide)).trans a2, (h2 9 (by decide)).trans a3, (h2 10 (by decide)).trans a4, (h2 12 (by decide)).trans a5⟩
  rw [h1 (b + 1 + 2 * j) (by omega) (by omega), h1 (b + 2 + 2 * j) (by omega) (by omega)]
  exact a1 j hj

set_option maxHeartbeats 4000000 in
set_option maxRecDepth 100000 in
theorem c_lookedAt {T : xT} {n : Nat} {sh : Nat → Nat × Nat} {I : xI} {R : xR} {L : xL} {P : xPost} {lr nw im tr rd hu se ac M : Nat} (hG : GEO sh R lr nw im tr rd hu se ac M) {nb ta te lo : Nat} {ki ve ce sto hu : Nat → Nat} {LN : xLN} {bi : Nat} (h : SC sh R I nw nb ki ve ce sto hu ta te lo LN) (hb : bi < nb) (K : ∀ I2 : xI, (∀ a, a ≠ nw + 17 → I2 a = I a) → I2 (nw + 17) 5 = nI (ylOf (lnAt LN nb ce hu te bi) lo) → I2 (nw + 17) 6 = nI (clOf (lnAt LN nb ce hu te bi) (ki bi) (ve bi) lo) → P (n, sh, 0, 0) I2 R L (some (.ref (nw + 17))))  : XM T zX9_lookedAt 4 [.ref lr, .int (nI bi)] n sh I R L P := by
  refine x_aload_n (pc := 0) dX9_lookedAt_0 rfl rfl ?_
  refine x_getr (pc := 1) dX9_lookedAt_1 kf_RX9_12 hG.g_x rfl hG.g_f0 ?_
  refine x_iload_n (pc := 4) dX9_lookedAt_4 rfl rfl ?_
  refine x_callV (pc := 5) (As := [.int _]) dX9_lookedAt_5 km_X6_lookAt kv_X6_lookAt kl_RX9_142 hG.g_nw.1 rfl rfl (by decide) ⟨Nat.le_refl _, Nat.le_refl _⟩ rfl (Nat.le_of_ble_eq_true rfl) (Nat.le_of_ble_eq_true rfl) (c_lookAt h hb (fun I2 k1 k2 k3 => ⟨rfl, rfl, ?_⟩))
  refine x_aload_n (pc := 8) dX9_lookedAt_8 rfl rfl ?_
  refine x_getr (pc := 9) dX9_lookedAt_9 kf_RX9_12 hG.g_x rfl hG.g_f0 ?_
  refine x_getr (pc := 12) dX9_lookedAt_12 kf_RX9_146 hG.g_nw.1 rfl hG.g_nw.2.2.1 ?_
  refine x_areturn (pc := 15) dX9_lookedAt_15 ⟨_, rfl⟩ ⟨Nat.le_refl _, Nat.le_refl _⟩ ?_
  exact K I2 k1 k2 k3

set_option maxHeartbeats 4000000 in
set_option maxRecDepth 100000 in
theorem c_of {T : xT} {n : Nat} {sh : Nat → Nat × Nat} {I : xI} {R : xR} {L : xL} {P : xPost} {lr nw im tr rd hu se ac M : Nat} (hG : GEO sh R lr nw im tr rd hu se ac M) {V : xV} {B rc : Nat} {ars : Nat → xAR} (h : FSC I nw V) (hv : VOK V B) (hB : B < 800000) (hr : cRings I lr rc ars) (hV6 : V 8 6 ≤ rc) (hRn : R nw 11 = rgRef V) {x y : Int32} (K : ∀ I2 : xI, FSC I2 nw V → (∀ a, (a < nw ∨ nw + 18 ≤ a) → I2 a = I a) → P (n, sh, 0, 0) I2 R L (some (.int (spOf V (rgVal ars V) x y))))  : XM T zX9_of 5 [.ref lr, .int x, .int y] n sh I R L P := by
  obtain ⟨v6, v12, v10, vb, vf, vw, vm, vta, vte, vod, vrg, vdi⟩ := id hv
  have r0 : bRow I (nw + 1) (V 8 0) (V 0) := h.row 0 (by decide)
  have r1 : bRow I (nw + 3) (V 8 0) (V 1) := h.row 1 (by decide)
  have r2 : bRow I (nw + 5) (V 8 0) (V 2) := h.row 2 (by decide)
  have r3 : bRow I (nw + 7) (V 8 0) (V 3) := h.row 3 (by decide)
  have r4 : bRow I (nw + 9) (V 8 0) (V 4) := h.row 4 (by decide)
  have r5 : bRow I (nw + 11) (V 8 0) (V 5) := h.row 5 (by decide)
  have r6 : bRow I (nw + 13) (V 8 4) (V 6) := h.row 6 (by decide)
  have r7 : bRow I (nw + 15) (V 8 5) (V 7) := h.row 7 (by decide)
  have hsc := h.toSC hG.g_nw hv (by omega) (lines_of hr hG.g_rg hV6 hRn)
  refine x_aload_n (pc := 0) dX9_of_0 rfl rfl ?_
  refine x_getr (pc := 1) dX9_of_1 kf_RX9_12 hG.g_x rfl hG.g_f0 ?_
  refine x_iload_n (pc := 4) dX9_of_4 rfl rfl ?_
  refine x_callV (pc := 5) (As := [.int _]) dX9_of_5 km_X6_isBeast kv_X6_isBeast kl_RX9_102 hG.g_nw.1 rfl rfl (by decide) ⟨Nat.le_refl _, Nat.le_refl _⟩ rfl (Nat.le_of_ble_eq_true rfl) (Nat.le_of_ble_eq_true rfl) (c_isBeast hG.g_nw r2 v6 (fun k hk ek => ⟨rfl, rfl, ?_⟩) (fun h1 => ⟨rfl, rfl, ?_⟩))
  · skip
    have hk : k < V 8 0 := hk
    subst ek
    refine x_if_ne_t (pc := 8) (tgt := 13) dX9_of_8 (by decide) (by decide) ?_
    refine x_iload_n (pc := 13) dX9_of_13 rfl rfl ?_
    refine x_tsw (pc := 14) (dt := 147) [(0, 60), (1, 72), (2, 84), (3, 96), (4, 108), (5, 120), (6, 129), (7, 138)] dX9_of_14 (by decide +kernel) (by decide) ?_
    refine xsw_c (fun c14 => ?_) (fun n14_0 => ?_)
    · skip
      refine x_aload_n (pc := 60) dX9_of_60 rfl rfl ?_
      refine x_getr (pc := 61) dX9_of_61 kf_RX9_12 hG.g_x rfl hG.g_f0 ?_
      refine x_getr (pc := 64) dX9_of_64 kf_RX9_105 hG.g_nw.1 rfl hG.g_nw.2.2.2.1 ?_
      refine x_iload_n (pc := 67) dX9_of_67 rfl rfl ?_
      refine x_callV (pc := 68) (As := [.int _]) dX9_of_68 km_X5_at kv_X5_at kl_RX9_109 hG.g_nw.2.2.2.2.2.2.2.2.2.2.2.1.1 rfl rfl (by decide) ⟨Nat.le_refl _, Nat.le_refl _⟩ rfl (Nat.le_of_ble_eq_true rfl) (Nat.le_of_ble_eq_true rfl) (c_at (hG.g_nw.2.2.2.2.2.2.2.2.2.2.2.1) (⟨rfl, rfl, ?_⟩))
      rw [show I (nw + 1) 1 = nI (V 8 0) from r0.1, rAt_in (m := V 8 0) hk v6 (by decide), show I (nw + 2) k = nI (V 0 k) from r0.2 k hk]
      refine x_ireturn (pc := 71) dX9_of_71 ⟨_, rfl, rfl⟩ ⟨Nat.le_refl _, Nat.le_refl _⟩ ?_
      have h9 := K I h (fun _ _ => rfl)
      rw [spOf_s hk v6] at h9
      unfold ofK at h9
      rw [if_pos c14] at h9
      exact h9
    refine xsw_c (fun c14 => ?_) (fun n14_1 => ?_)
    · skip
      refine x_aload_n (pc := 72) dX9_of_72 rfl rfl ?_
      refine x_getr (pc := 73) dX9_of_73 kf_RX9_12 hG.g_x rfl hG.g_f0 ?_
      refine x_getr (pc := 76) dX9_of_76 kf_RX9_115 hG.g_nw.1 rfl hG.g_nw.2.2.2.2.1 ?_
      refine x_iload_n (pc := 79) dX9_of_79 rfl rfl ?_
      refine x_callV (pc := 80) (As := [.int _]) dX9_of_80 km_X5_at kv_X5_at kl_RX9_109 hG.g_nw.2.2.2.2.2.2.2.2.2.2.2.2.1.1 rfl rfl (by decide) ⟨Nat.le_refl _, Nat.le_refl _⟩ rfl (Nat.le_of_ble_eq_true rfl) (Nat.le_of_ble_eq_true rfl) (c_at (hG.g_nw.2.2.2.2.2.2.2.2.2.2.2.2.1) (⟨rfl, rfl, ?_⟩))
      rw [show I (nw + 3) 1 = nI (V 8 0) from r1.1, rAt_in (m := V 8 0) hk v6 (by decide), show I (nw + 4) k = nI (V 1 k) from r1.2 k hk]
      refine x_ireturn (pc := 83) dX9_of_83 ⟨_, rfl, rfl⟩ ⟨Nat.le_refl _, Nat.le_refl _⟩ ?_
      have h9 := K I h (fun _ _ => rfl)
      rw [spOf_s hk v6] at h9
      unfold ofK at h9
      rw [if_neg n14_0, if_pos c14] at h9
      exact h9
    refine xsw_c (fun c14 => ?_) (fun n14_2 => ?_)
    · skip
      refine x_aload_n (pc := 84) dX9_of_84 rfl rfl ?_
      refine x_getr (pc := 85) dX9_of_85 kf_RX9_12 hG.g_x rfl hG.g_f0 ?_
      refine x_getr (pc := 88) dX9_of_88 kf_RX9_118 hG.g_nw.1 rfl hG.g_nw.2.2.2.2.2.1 ?_
      refine x_iload_n (pc := 91) dX9_of_91 rfl rfl ?_
      refine x_callV (pc := 92) (As := [.int _]) dX9_of_92 km_X5_at kv_X5_at kl_RX9_109 hG.g_nw.2.2.2.2.2.2.2.2.2.2.2.2.2.1.1 rfl rfl (by decide) ⟨Nat.le_refl _, Nat.le_refl _⟩ rfl (Nat.le_of_ble_eq_true rfl) (Nat.le_of_ble_eq_true rfl) (c_at (hG.g_nw.2.2.2.2.2.2.2.2.2.2.2.2.2.1) (⟨rfl, rfl, ?_⟩))
      rw [show I (nw + 5) 1 = nI (V 8 0) from r2.1, rAt_in (m := V 8 0) hk v6 (by decide), show I (nw + 6) k = nI (V 2 k) from r2.2 k hk]
      refine x_ireturn (pc := 95) dX9_of_95 ⟨_, rfl, rfl⟩ ⟨Nat.le_refl _, Nat.le_refl _⟩ ?_
      have h9 := K I h (fun _ _ => rfl)
      rw [spOf_s hk v6] at h9
      unfold ofK at h9
      rw [if_neg n14_0, if_neg n14_1, if_pos c14] at h9
      exact h9
    refine xsw_c (fun c14 => ?_) (fun n14_3 => ?_)
    · skip
      refine x_aload_n (pc := 96) dX9_of_96 rfl rfl ?_
      refine x_getr (pc := 97) dX9_of_97 kf_RX9_12 hG.g_x rfl hG.g_f0 ?_
      refine x_getr (pc := 100) dX9_of_100 kf_RX9_121 hG.g_nw.1 rfl hG.g_nw.2.2.2.2.2.2.1 ?_
      refine x_iload_n (pc := 103) dX9_of_103 rfl rfl ?_
      refine x_callV (pc := 104) (As := [.int _]) dX9_of_104 km_X5_at kv_X5_at kl_RX9_109 hG.g_nw.2.2.2.2.2.2.2.2.2.2.2.2.2.2.1.1 rfl rfl (by decide) ⟨Nat.le_refl _, Nat.le_refl _⟩ rfl (Nat.le_of_ble_eq_true rfl) (Nat.le_of_ble_eq_true rfl) (c_at (hG.g_nw.2.2.2.2.2.2.2.2.2.2.2.2.2.2.1) (⟨rfl, rfl, ?_⟩))
      rw [show I (nw + 7) 1 = nI (V 8 0) from r3.1, rAt_in (m := V 8 0) hk v6 (by decide), show I (nw + 8) k = nI (V 3 k) from r3.2 k hk]
      refine x_ireturn (pc := 107) dX9_of_107 ⟨_, rfl, rfl⟩ ⟨Nat.le_refl _, Nat.le_refl _⟩ ?_
      have h9 := K I h (fun _ _ => rfl)
      rw [spOf_s hk v6] at h9
      unfold ofK at h9
      rw [if_neg n14_0, if_neg n14_1, if_neg n14_2, if_pos c14] at h9
      exact h9
    refine xsw_c (fun c14 => ?_) (fun n14_4 => ?_)
    · skip
      refine x_aload_n (pc := 108) dX9_of_108 rfl rfl ?_
      refine x_getr (pc := 109) dX9_of_109 kf_RX9_12 hG.g_x rfl hG.g_f0 ?_
      refine x_getr (pc := 112) dX9_of_112 kf_RX9_124 hG.g_nw.1 rfl hG.g_nw.2.2.2.2.2.2.2.1 ?_
      refine x_iload_n (pc := 115) dX9_of_115 rfl rfl ?_
      refine x_callV (pc := 116) (As := [.int _]) dX9_of_116 km_X5_at kv_X5_at kl_RX9_109 hG.g_nw.2.2.2.2.2.2.2.2.2.2.2.2.2.2.2.1.1 rfl rfl (by decide) ⟨Nat.le_refl _, Nat.le_refl _⟩ rfl (Nat.le_of_ble_eq_true rfl) (Nat.le_of_ble_eq_true rfl) (c_at (hG.g_nw.2.2.2.2.2.2.2.2.2.2.2.2.2.2.2.1) (⟨rfl, rfl, ?_⟩))
      rw [show I (nw + 9) 1 = nI (V 8 0) from r4.1, rAt_in (m := V 8 0) hk v6 (by decide), show I (nw + 10) k = nI (V 4 k) from r4.2 k hk]
      refine x_ireturn (pc := 119) dX9_of_119 ⟨_, rfl, rfl⟩ ⟨Nat.le_refl _, Nat.le_refl _⟩ ?_
      have h9 := K I h (fun _ _ => rfl)
      rw [spOf_s hk v6] at h9
      unfold ofK at h9
      rw [if_neg n14_0, if_neg n14_1, if_neg n14_2, if_neg n14_3, if_pos c14] at h9
      exact h9
    refine xsw_c (fun c14 => ?_) (fun n14_5 => ?_)
    · skip
      refine x_aload_n (pc := 120) dX9_of_120 rfl rfl ?_
      refine x_iload_n (pc := 121) dX9_of_121 rfl rfl ?_
      refine x_callV (pc := 122) (As := [.int _]) dX9_of_122 km_X9_lookedAt kv_X9_lookedAt kl_RX9_127 hG.g_x rfl rfl (by decide) ⟨Nat.le_refl _, Nat.le_refl _⟩ rfl (Nat.le_of_ble_eq_true rfl) (Nat.le_of_ble_eq_true rfl) (c_lookedAt hG hsc hk (fun I2 k1 k2 k3 => ⟨rfl, rfl, ?_⟩))
      refine x_get (pc := 125) dX9_of_125 kf_RX9_131 hG.g_nw.2.1 rfl ?_
      refine x_ireturn (pc := 128) dX9_of_128 ⟨_, rfl, rfl⟩ ⟨Nat.le_refl _, Nat.le_refl _⟩ ?_
      have h9 := K I2 (h.keep (fun a p1 p2 => k1 a (by omega))) (fun a p => k1 a (by omega))
      rw [spOf_s hk v6] at h9
      unfold ofK at h9
      rw [if_neg n14_0, if_neg n14_1, if_neg n14_2, if_neg n14_3, if_neg n14_4, if_pos c14] at h9
      rw [k2]
      exact h9
    refine xsw_c (fun c14 => ?_) (fun n14_6 => ?_)
    · skip
      refine x_aload_n (pc := 129) dX9_of_129 rfl rfl ?_
      refine x_iload_n (pc := 130) dX9_of_130 rfl rfl ?_
      refine x_callV (pc := 131) (As := [.int _]) dX9_of_131 km_X9_lookedAt kv_X9_lookedAt kl_RX9_127 hG.g_x rfl rfl (by decide) ⟨Nat.le_refl _, Nat.le_refl _⟩ rfl (Nat.le_of_ble_eq_true rfl) (Nat.le_of_ble_eq_true rfl) (c_lookedAt hG hsc hk (fun I2 k1 k2 k3 => ⟨rfl, rfl, ?_⟩))
      refine x_get (pc := 134) dX9_of_134 kf_RX9_136 hG.g_nw.2.1 rfl ?_
      refine x_ireturn (pc := 137) dX9_of_137 ⟨_, rfl, rfl⟩ ⟨Nat.le_refl _, Nat.le_refl _⟩ ?_
      have h9 := K I2 (h.keep (fun a p1 p2 => k1 a (by omega))) (fun a p => k1 a (by omega))
      rw [spOf_s hk v6] at h9
      unfold ofK at h9
      rw [if_neg n14_0, if_neg n14_1, if_neg n14_2, if_neg n14_3, if_neg n14_4, if_neg n14_5, if_pos c14] at h9
      rw [k3]
      exact h9
    refine xsw_c (fun c14 => ?_) (fun n14_7 => ?_)
    · skip
      refine x_aload_n (pc := 138) dX9_of_138 rfl rfl ?_
      refine x_getr (pc := 139) dX9_of_139 kf_RX9_12 hG.g_x rfl hG.g_f0 ?_
      refine x_iload_n (pc := 142) dX9_of_142 rfl rfl ?_
      refine x_callV (pc := 143) (As := [.int _]) dX9_of_143 km_X6_deedOf kv_X6_deedOf kl_RX9_139 hG.g_nw.1 rfl rfl (by decide) ⟨Nat.le_refl _, Nat.le_refl _⟩ rfl (Nat.le_of_ble_eq_true rfl) (Nat.le_of_ble_eq_true rfl) (c_deedOf hsc hk (fun I2 k1 k2 k3 => ⟨rfl, rfl, ?_⟩))
      refine x_ireturn (pc := 146) dX9_of_146 ⟨_, rfl, rfl⟩ ⟨Nat.le_refl _, Nat.le_refl _⟩ ?_
      have h9 := K I2 (h.keep14 k1 k2) (fun a p => k1 a (by omega) (by omega))
      rw [spOf_s hk v6] at h9
      unfold ofK at h9
      rw [if_neg n14_0, if_neg n14_1, if_neg n14_2, if_neg n14_3, if_neg n14_4, if_neg n14_5, if_neg n14_6, if_pos c14] at h9
      exact h9
    refine xsw_n ?_
    refine x_iconst (pc := 147) (v := -1) dX9_of_147 (by decide) ?_
    refine x_ireturn (pc := 148) dX9_of_148 ⟨_, rfl, rfl⟩ ⟨Nat.le_refl _, Nat.le_refl _⟩ ?_
    have h9 := K I h (fun _ _ => rfl)
    rw [spOf_s hk v6] at h9
    unfold ofK at h9
    rw [if_neg n14_0, if_neg n14_1, if_neg n14_2, if_neg n14_3, if_neg n14_4, if_neg n14_5, if_neg n14_6, if_neg n14_7] at h9
    exact h9
  · skip
    refine x_if_ne_f (pc := 8) (tgt := 13) dX9_of_8 (by decide) (by decide) ?_
    refine x_iconst (pc := 11) (v := -1) dX9_of_11 (by decide) ?_
    refine x_ireturn (pc := 12) dX9_of_12 ⟨_, rfl, rfl⟩ ⟨Nat.le_refl _, Nat.le_refl _⟩ ?_
    have h9 := K I h (fun _ _ => rfl)
    rw [spOf_n h1] at h9
    exact h9

set_option maxHeartbeats 4000000 in
set_option maxRecDepth 100000 in
theorem m_of {T : xT} {n : Nat} {sh : Nat → Nat × Nat} {I : xI} {R : xR} {L : xL} {P : xPost} {M : Nat} (hM : xModel sh R M) {V : xV} {B rc : Nat} {ars : Nat → xAR} (h : MDV I M V) (hv : VOK V B) (hB : B < 800000) (hr : mRings I M rc ars) (hV6 : V 8 6 ≤ rc) {x y : Int32} (K : ∀ I2 : xI, MDV I2 M V → mdP M I I2 → P (n, sh, 0, 0) I2 R L (some (.int (spOf V (rgVal ars V) x y))))  : XM T zX10_of 5 [.ref M, .int x, .int y] n sh I R L P := by
  obtain ⟨v6, v12, v10, vb, vf, vw, vm, vta, vte, vod, vrg, vdi⟩ := id hv
  refine x_aload_n (pc := 0) dX10_of_0 rfl rfl ?_
  refine x_iload_n (pc := 1) dX10_of_1 rfl rfl ?_
  refine x_callV (pc := 2) (As := [.int _]) dX10_of_2 km_X10_isBeast kv_X10_isBeast kl_RX10_246 hM.s rfl rfl (by decide) ⟨Nat.le_refl _, Nat.le_refl _⟩ rfl (Nat.le_of_ble_eq_true rfl) (Nat.le_of_ble_eq_true rfl) (m_isBeast hM h.1 v6 (fun k hk ek => ⟨rfl, rfl, ?_⟩) (fun h1 => ⟨rfl, rfl, ?_⟩))
  · skip
    subst ek
    refine x_if_ne_t (pc := 5) (tgt := 10) dX10_of_5 (by decide) (by decide) ?_
    refine x_aload_n (pc := 10) dX10_of_10 rfl rfl ?_
    refine x_callV (pc := 11) (As := []) dX10_of_11 km_X10_asIs kv_X10_asIs kl_RX10_338 hM.s rfl rfl (by decide) ⟨Nat.le_refl _, Nat.le_refl _⟩ rfl (Nat.le_of_ble_eq_true rfl) (Nat.le_of_ble_eq_true rfl) (m_asIs hM (fun I2 k1 k2 k3 k4 k5 k6 k7 => ⟨rfl, rfl, ?_⟩))
    have hms := h.toMS hM hv hB hr hV6 k1 k2 k3 k4 k5 k6 k7
    refine x_aload_n (pc := 14) dX10_of_14 rfl rfl ?_
    refine x_iload_n (pc := 15) dX10_of_15 rfl rfl ?_
    refine x_callV (pc := 16) (As := [.int _]) dX10_of_16 km_X10_layLines kv_X10_layLines kl_RX10_331 hM.s rfl rfl (by decide) ⟨Nat.le_refl _, Nat.le_refl _⟩ rfl (Nat.le_of_ble_eq_true rfl) (Nat.le_of_ble_eq_true rfl) (m_layLines hms hk (fun I3 f3 y3 z3 => ⟨rfl, rfl, ?_⟩))
    have ff : mdT M I I3 := (mdT.asIs k1 k2).tr (mdT.of f3)
    have hm3 := h.keepT ff
    have hk6 : k < 6 := by omega
    refine x_iload_n (pc := 19) dX10_of_19 rfl rfl ?_
    refine x_tsw (pc := 20) (dt := 119) [(0, 68), (1, 75), (2, 82), (3, 89), (4, 96), (5, 103), (6, 108), (7, 113)] dX10_of_20 (by decide +kernel) (by decide) ?_
    refine xsw_c (fun c20 => ?_) (fun n20_0 => ?_)
    · skip
      refine x_aload_n (pc := 68) dX10_of_68 rfl rfl ?_
      refine x_getr (pc := 69) dX10_of_69 kf_RX10_22 hM.s rfl hM.f0 ?_
      refine x_iload_n (pc := 72) dX10_of_72 rfl rfl ?_
      refine x_ialdn (pc := 73) (a := k) dX10_of_73 hM.s0 (by omega) (by omega) ?_
      refine x_ireturn (pc := 74) dX10_of_74 ⟨_, rfl, rfl⟩ ⟨Nat.le_refl _, Nat.le_refl _⟩ ?_
      have h9 := K I3 hm3 ff.mdP
      rw [spOf_s hk v6] at h9
      unfold ofK at h9
      rw [if_pos c20] at h9
      rw [show I3 (M + 1) k = nI (V 0 k) from hm3.2.2.2.2.2.2.2.1 0 (by decide) k hk]
      exact h9
    refine xsw_c (fun c20 => ?_) (fun n20_1 => ?_)
    · skip
      refine x_aload_n (pc := 75) dX10_of_75 rfl rfl ?_
      refine x_getr (pc := 76) dX10_of_76 kf_RX10_26 hM.s rfl hM.f1 ?_
      refine x_iload_n (pc := 79) dX10_of_79 rfl rfl ?_
      refine x_ialdn (pc := 80) (a := k) dX10_of_80 hM.s1 (by omega) (by omega) ?_
      refine x_ireturn (pc := 81) dX10_of_81 ⟨_, rfl, rfl⟩ ⟨Nat.le_refl _, Nat.le_refl _⟩ ?_
      have h9 := K I3 hm3 ff.mdP
      rw [spOf_s hk v6] at h9
      unfold ofK at h9
      rw [if_neg n20_0, if_pos c20] at h9
      rw [show I3 (M + 2) k = nI (V 1 k) from hm3.2.2.2.2.2.2.2.1 1 (by decide) k hk]
      exact h9
    refine xsw_c (fun c20 => ?_) (fun n20_2 => ?_)
    · skip
      refine x_aload_n (pc := 82) dX10_of_82 rfl rfl ?_
      refine x_getr (pc := 83) dX10_of_83 kf_RX10_29 hM.s rfl hM.f2 ?_
      refine x_iload_n (pc := 86) dX10_of_86 rfl rfl ?_
      refine x_ialdn (pc := 87) (a := k) dX10_of_87 hM.s2 (by omega) (by omega) ?_
      refine x_ireturn (pc := 88) dX10_of_88 ⟨_, rfl, rfl⟩ ⟨Nat.le_refl _, Nat.le_refl _⟩ ?_
      have h9 := K I3 hm3 ff.mdP
      rw [spOf_s hk v6] at h9
      unfold ofK at h9
      rw [if_neg n20_0, if_neg n20_1, if_pos c20] at h9
      rw [show I3 (M + 3) k = nI (V 2 k) from hm3.2.2.2.2.2.2.2.1 2 (by decide) k hk]
      exact h9
    refine xsw_c (fun c20 => ?_) (fun n20_3 => ?_)
    · skip
      refine x_aload_n (pc := 89) dX10_of_89 rfl rfl ?_
      refine x_getr (pc := 90) dX10_of_90 kf_RX10_32 hM.s rfl hM.f3 ?_
      refine x_iload_n (pc := 93) dX10_of_93 rfl rfl ?_
      refine x_ialdn (pc := 94) (a := k) dX10_of_94 hM.s3 (by omega) (by omega) ?_
      refine x_ireturn (pc := 95) dX10_of_95 ⟨_, rfl, rfl⟩ ⟨Nat.le_refl _, Nat.le_refl _⟩ ?_
      have h9 := K I3 hm3 ff.mdP
      rw [spOf_s hk v6] at h9
      unfold ofK at h9
      rw [if_neg n20_0, if_neg n20_1, if_neg n20_2, if_pos c20] at h9
      rw [show I3 (M + 4) k = nI (V 3 k) from hm3.2.2.2.2.2.2.2.1 3 (by decide) k hk]
      exact h9
    refine xsw_c (fun c20 => ?_) (fun n20_4 => ?_)
    · skip
      refine x_aload_n (pc := 96) dX10_of_96 rfl rfl ?_
      refine x_getr (pc := 97) dX10_of_97 kf_RX10_35 hM.s rfl hM.f4 ?_
      refine x_iload_n (pc := 100) dX10_of_100 rfl rfl ?_
      refine x_ialdn (pc := 101) (a := k) dX10_of_101 hM.s4 (by omega) (by omega) ?_
      refine x_ireturn (pc := 102) dX10_of_102 ⟨_, rfl, rfl⟩ ⟨Nat.le_refl _, Nat.le_refl _⟩ ?_
      have h9 := K I3 hm3 ff.mdP
      rw [spOf_s hk v6] at h9
      unfold ofK at h9
      rw [if_neg n20_0, if_neg n20_1, if_neg n20_2, if_neg n20_3, if_pos c20] at h9
      rw [show I3 (M + 5) k = nI (V 4 k) from hm3.2.2.2.2.2.2.2.1 4 (by decide) k hk]
      exact h9
    refine xsw_c (fun c20 => ?_) (fun n20_5 => ?_)
    · skip
      refine x_aload_n (pc := 103) dX10_of_103 rfl rfl ?_
      refine x_get (pc := 104) dX10_of_104 kf_RX10_117 hM.s rfl ?_
      refine x_ireturn (pc := 107) dX10_of_107 ⟨_, rfl, rfl⟩ ⟨Nat.le_refl _, Nat.le_refl _⟩ ?_
      have h9 := K I3 hm3 ff.mdP
      rw [spOf_s hk v6] at h9
      unfold ofK at h9
      rw [if_neg n20_0, if_neg n20_1, if_neg n20_2, if_neg n20_3, if_neg n20_4, if_pos c20] at h9
      rw [y3]
      exact h9
    refine xsw_c (fun c20 => ?_) (fun n20_6 => ?_)
    · skip
      refine x_aload_n (pc := 108) dX10_of_108 rfl rfl ?_
      refine x_get (pc := 109) dX10_of_109 kf_RX10_120 hM.s rfl ?_
      refine x_ireturn (pc := 112) dX10_of_112 ⟨_, rfl, rfl⟩ ⟨Nat.le_refl _, Nat.le_refl _⟩ ?_
      have h9 := K I3 hm3 ff.mdP
      rw [spOf_s hk v6] at h9
      unfold ofK at h9
      rw [if_neg n20_0, if_neg n20_1, if_neg n20_2, if_neg n20_3, if_neg n20_4, if_neg n20_5, if_pos c20] at h9
      rw [z3]
      exact h9
    refine xsw_c (fun c20 => ?_) (fun n20_7 => ?_)
    · skip
      refine x_aload_n (pc := 113) dX10_of_113 rfl rfl ?_
      refine x_iload_n (pc := 114) dX10_of_114 rfl rfl ?_
      refine x_callV (pc := 115) (As := [.int _]) dX10_of_115 km_X10_doesOf kv_X10_doesOf kl_RX10_341 hM.s rfl rfl (by decide) ⟨Nat.le_refl _, Nat.le_refl _⟩ rfl (Nat.le_of_ble_eq_true rfl) (Nat.le_of_ble_eq_true rfl) (m_doesOf (hms.keep f3) hk (fun I4 f4 g4 => ⟨rfl, rfl, ?_⟩))
      refine x_ireturn (pc := 118) dX10_of_118 ⟨_, rfl, rfl⟩ ⟨Nat.le_refl _, Nat.le_refl _⟩ ?_
      have h9 := K I4 (h.keepT (ff.tr (mdT.of f4))) (ff.tr (mdT.of f4)).mdP
      rw [spOf_s hk v6] at h9
      unfold ofK at h9
      rw [if_neg n20_0, if_neg n20_1, if_neg n20_2, if_neg n20_3, if_neg n20_4, if_neg n20_5, if_neg n20_6, if_pos c20] at h9
      exact h9
    refine xsw_n ?_
    refine x_iconst (pc := 119) (v := -1) dX10_of_119 (by decide) ?_
    refine x_ireturn (pc := 120) dX10_of_120 ⟨_, rfl, rfl⟩ ⟨Nat.le_refl _, Nat.le_refl _⟩ ?_
    have h9 := K I3 hm3 ff.mdP
    rw [spOf_s hk v6] at h9
    unfold ofK at h9
    rw [if_neg n20_0, if_neg n20_1, if_neg n20_2, if_neg n20_3, if_neg n20_4, if_neg n20_5, if_neg n20_6, if_neg n20_7] at h9
    exact h9
  · skip
    refine x_if_ne_f (pc := 5) (tgt := 10) dX10_of_5 (by decide) (by decide) ?_
    refine x_iconst (pc := 8) (v := -1) dX10_of_8 (by decide) ?_
    refine x_ireturn (pc := 9) dX10_of_9 ⟨_, rfl, rfl⟩ ⟨Nat.le_refl _, Nat.le_refl _⟩ ?_
    have h9 := K I h mdP.rf
    rw [spOf_n h1] at h9
    exact h9

