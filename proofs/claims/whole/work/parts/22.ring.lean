/-! ===== Look and Ring ===== -/
def lkSel (f : Nat → Int32) (p : Int32) : Int32 := if p = 98 then f 2 else if p = 99 then f 3 else if p = 104 then f 1 else if p = 110 then f 0 else f 4
def passC (f : Nat → Int32) (p s n : Int32) : Bool := if s = 60 then decide (lkSel f p < n) else if s = 62 then decide (n < lkSel f p) else decide (lkSel f p = n)
theorem passC_lt {f : Nat → Int32} {p s n v : Int32} (h : v = lkSel f p) (hs : s = 60) : passC f p s n = decide (v < n) := by unfold passC; rw [if_pos hs, h]
theorem passC_gt {f : Nat → Int32} {p s n v : Int32} (h : v = lkSel f p) (h0 : ¬ s = 60) (hs : s = 62) : passC f p s n = decide (n < v) := by unfold passC; rw [if_neg h0, if_pos hs, h]
theorem passC_eq {f : Nat → Int32} {p s n v : Int32} (h : v = lkSel f p) (h0 : ¬ s = 60) (hs : ¬ s = 62) : passC f p s n = decide (v = n) := by unfold passC; rw [if_neg h0, if_neg hs, h]
theorem i32_nlt {a b : Int32} (h : b ≤ a) : ¬ a < b := fun q => by
  have h1 := Int32.le_iff_toInt_le.mp h
  have h2 := Int32.lt_iff_toInt_lt.mp q
  omega
theorem i32_lt {a b : Int32} (h : ¬ b ≤ a) : a < b := Int32.lt_iff_toInt_lt.mpr (Int.lt_of_not_ge fun q => h (Int32.le_iff_toInt_le.mpr q))
set_option maxHeartbeats 4000000 in
set_option maxRecDepth 100000 in
theorem c_passes {T : xT} {n : Nat} {sh : Nat → Nat × Nat} {I : xI} {R : xR} {L : xL} {P : xPost} {r : Nat} {p s k : Int32} (hr : sh r = (0, 2)) (K1 : passC (I r) p s k = true → P (n, sh, 0, 0) I R L (some (.int 1))) (K2 : passC (I r) p s k = false → P (n, sh, 0, 0) I R L (some (.int 0))) : XM T zX2_passes 0 [.ref r, .int p, .int s, .int k] n sh I R L P := by
  refine x_iload_n (pc := 0) dX2_passes_0 rfl rfl ?_
  refine x_lsw (pc := 1) (dt := 80) [(98, 62), (99, 71), (104, 53), (110, 44)] dX2_passes_1 (by decide +kernel) (by decide +kernel) (by decide) ?_
  refine xsw_c (fun c1 => ?_) (fun n1_98 => ?_)
  · skip
    refine x_aload_n (pc := 62) dX2_passes_62 rfl rfl ?_
    refine x_get (pc := 63) dX2_passes_63 kf_RX2_16 hr rfl ?_
    refine x_topi (fun v66 ev66 => ?_)
    refine x_istore (pc := 66) (lv' := [(0, .ref r), (1, .int p), (2, .int s), (3, .int k), (4, .int v66)]) dX2_passes_66 (by decide) rfl ?_
    refine x_goto (pc := 68) (tgt := 86) dX2_passes_68 (by decide) ?_
    refine x_iload_n (pc := 86) dX2_passes_86 rfl rfl ?_
    refine x_lsw (pc := 87) (dt := 136) [(60, 112), (62, 124)] dX2_passes_87 (by decide +kernel) (by decide +kernel) (by decide) ?_
    refine xsw_c (fun c87 => ?_) (fun n87_60 => ?_)
    · skip
      refine x_iload (pc := 112) dX2_passes_112 rfl ?_
      refine x_iload_n (pc := 114) dX2_passes_114 rfl rfl ?_
      refine x_icmp_ge (pc := 115) (tgt := 122) dX2_passes_115 (by decide) (fun c115 => ?_) (fun c115 => ?_)
      · skip
        refine x_iconst (pc := 122) (v := 0) dX2_passes_122 (by decide) ?_
        refine x_ireturn (pc := 123) dX2_passes_123 ⟨_, rfl, by decide⟩ ⟨Nat.le_refl _, Nat.le_refl _⟩ ?_
        exact K2 ((passC_lt (by rw [ev66]; unfold lkSel; rw [if_pos c1]) c87).trans (decide_eq_false (i32_nlt c115)))
      · skip
        refine x_iconst (pc := 118) (v := 1) dX2_passes_118 (by decide) ?_
        refine x_goto (pc := 119) (tgt := 123) dX2_passes_119 (by decide) ?_
        refine x_ireturn (pc := 123) dX2_passes_123 ⟨_, rfl, by decide⟩ ⟨Nat.le_refl _, Nat.le_refl _⟩ ?_
        exact K1 ((passC_lt (by rw [ev66]; unfold lkSel; rw [if_pos c1]) c87).trans (decide_eq_true (i32_lt c115)))
    refine xsw_c (fun c87 => ?_) (fun n87_62 => ?_)
    · skip
      refine x_iload (pc := 124) dX2_passes_124 rfl ?_
      refine x_iload_n (pc := 126) dX2_passes_126 rfl rfl ?_
      refine x_icmp_le (pc := 127) (tgt := 134) dX2_passes_127 (by decide) (fun c127 => ?_) (fun c127 => ?_)
      · skip
        refine x_iconst (pc := 134) (v := 0) dX2_passes_134 (by decide) ?_
        refine x_ireturn (pc := 135) dX2_passes_135 ⟨_, rfl, by decide⟩ ⟨Nat.le_refl _, Nat.le_refl _⟩ ?_
        exact K2 ((passC_gt (by rw [ev66]; unfold lkSel; rw [if_pos c1]) n87_60 c87).trans (decide_eq_false (i32_nlt c127)))
      · skip
        refine x_iconst (pc := 130) (v := 1) dX2_passes_130 (by decide) ?_
        refine x_goto (pc := 131) (tgt := 135) dX2_passes_131 (by decide) ?_
        refine x_ireturn (pc := 135) dX2_passes_135 ⟨_, rfl, by decide⟩ ⟨Nat.le_refl _, Nat.le_refl _⟩ ?_
        exact K1 ((passC_gt (by rw [ev66]; unfold lkSel; rw [if_pos c1]) n87_60 c87).trans (decide_eq_true (i32_lt c127)))
    refine xsw_n ?_
    refine x_iload (pc := 136) dX2_passes_136 rfl ?_
    refine x_iload_n (pc := 138) dX2_passes_138 rfl rfl ?_
    refine x_icmp_ne (pc := 139) (tgt := 146) dX2_passes_139 (by decide) (fun c139 => ?_) (fun c139 => ?_)
    · skip
      refine x_iconst (pc := 146) (v := 0) dX2_passes_146 (by decide) ?_
      refine x_ireturn (pc := 147) dX2_passes_147 ⟨_, rfl, by decide⟩ ⟨Nat.le_refl _, Nat.le_refl _⟩ ?_
      exact K2 ((passC_eq (by rw [ev66]; unfold lkSel; rw [if_pos c1]) n87_60 n87_62).trans (decide_eq_false c139))
    · skip
      refine x_iconst (pc := 142) (v := 1) dX2_passes_142 (by decide) ?_
      refine x_goto (pc := 143) (tgt := 147) dX2_passes_143 (by decide) ?_
      refine x_ireturn (pc := 147) dX2_passes_147 ⟨_, rfl, by decide⟩ ⟨Nat.le_refl _, Nat.le_refl _⟩ ?_
      exact K1 ((passC_eq (by rw [ev66]; unfold lkSel; rw [if_pos c1]) n87_60 n87_62).trans (decide_eq_true c139))
  refine xsw_c (fun c1 => ?_) (fun n1_99 => ?_)
  · skip
    refine x_aload_n (pc := 71) dX2_passes_71 rfl rfl ?_
    refine x_get (pc := 72) dX2_passes_72 kf_RX2_19 hr rfl ?_
    refine x_topi (fun v75 ev75 => ?_)
    refine x_istore (pc := 75) (lv' := [(0, .ref r), (1, .int p), (2, .int s), (3, .int k), (4, .int v75)]) dX2_passes_75 (by decide) rfl ?_
    refine x_goto (pc := 77) (tgt := 86) dX2_passes_77 (by decide) ?_
    refine x_iload_n (pc := 86) dX2_passes_86 rfl rfl ?_
    refine x_lsw (pc := 87) (dt := 136) [(60, 112), (62, 124)] dX2_passes_87 (by decide +kernel) (by decide +kernel) (by decide) ?_
    refine xsw_c (fun c87 => ?_) (fun n87_60 => ?_)
    · skip
      refine x_iload (pc := 112) dX2_passes_112 rfl ?_
      refine x_iload_n (pc := 114) dX2_passes_114 rfl rfl ?_
      refine x_icmp_ge (pc := 115) (tgt := 122) dX2_passes_115 (by decide) (fun c115 => ?_) (fun c115 => ?_)
      · skip
        refine x_iconst (pc := 122) (v := 0) dX2_passes_122 (by decide) ?_
        refine x_ireturn (pc := 123) dX2_passes_123 ⟨_, rfl, by decide⟩ ⟨Nat.le_refl _, Nat.le_refl _⟩ ?_
        exact K2 ((passC_lt (by rw [ev75]; unfold lkSel; rw [if_neg n1_98, if_pos c1]) c87).trans (decide_eq_false (i32_nlt c115)))
      · skip
        refine x_iconst (pc := 118) (v := 1) dX2_passes_118 (by decide) ?_
        refine x_goto (pc := 119) (tgt := 123) dX2_passes_119 (by decide) ?_
        refine x_ireturn (pc := 123) dX2_passes_123 ⟨_, rfl, by decide⟩ ⟨Nat.le_refl _, Nat.le_refl _⟩ ?_
        exact K1 ((passC_lt (by rw [ev75]; unfold lkSel; rw [if_neg n1_98, if_pos c1]) c87).trans (decide_eq_true (i32_lt c115)))
    refine xsw_c (fun c87 => ?_) (fun n87_62 => ?_)
    · skip
      refine x_iload (pc := 124) dX2_passes_124 rfl ?_
      refine x_iload_n (pc := 126) dX2_passes_126 rfl rfl ?_
      refine x_icmp_le (pc := 127) (tgt := 134) dX2_passes_127 (by decide) (fun c127 => ?_) (fun c127 => ?_)
      · skip
        refine x_iconst (pc := 134) (v := 0) dX2_passes_134 (by decide) ?_
        refine x_ireturn (pc := 135) dX2_passes_135 ⟨_, rfl, by decide⟩ ⟨Nat.le_refl _, Nat.le_refl _⟩ ?_
        exact K2 ((passC_gt (by rw [ev75]; unfold lkSel; rw [if_neg n1_98, if_pos c1]) n87_60 c87).trans (decide_eq_false (i32_nlt c127)))
      · skip
        refine x_iconst (pc := 130) (v := 1) dX2_passes_130 (by decide) ?_
        refine x_goto (pc := 131) (tgt := 135) dX2_passes_131 (by decide) ?_
        refine x_ireturn (pc := 135) dX2_passes_135 ⟨_, rfl, by decide⟩ ⟨Nat.le_refl _, Nat.le_refl _⟩ ?_
        exact K1 ((passC_gt (by rw [ev75]; unfold lkSel; rw [if_neg n1_98, if_pos c1]) n87_60 c87).trans (decide_eq_true (i32_lt c127)))
    refine xsw_n ?_
    refine x_iload (pc := 136) dX2_passes_136 rfl ?_
    refine x_iload_n (pc := 138) dX2_passes_138 rfl rfl ?_
    refine x_icmp_ne (pc := 139) (tgt := 146) dX2_passes_139 (by decide) (fun c139 => ?_) (fun c139 => ?_)
    · skip
      refine x_iconst (pc := 146) (v := 0) dX2_passes_146 (by decide) ?_
      refine x_ireturn (pc := 147) dX2_passes_147 ⟨_, rfl, by decide⟩ ⟨Nat.le_refl _, Nat.le_refl _⟩ ?_
      exact K2 ((passC_eq (by rw [ev75]; unfold lkSel; rw [if_neg n1_98, if_pos c1]) n87_60 n87_62).trans (decide_eq_false c139))
    · skip
      refine x_iconst (pc := 142) (v := 1) dX2_passes_142 (by decide) ?_
      refine x_goto (pc := 143) (tgt := 147) dX2_passes_143 (by decide) ?_
      refine x_ireturn (pc := 147) dX2_passes_147 ⟨_, rfl, by decide⟩ ⟨Nat.le_refl _, Nat.le_refl _⟩ ?_
      exact K1 ((passC_eq (by rw [ev75]; unfold lkSel; rw [if_neg n1_98, if_pos c1]) n87_60 n87_62).trans (decide_eq_true c139))
  refine xsw_c (fun c1 => ?_) (fun n1_104 => ?_)
  · skip
    refine x_aload_n (pc := 53) dX2_passes_53 rfl rfl ?_
    refine x_get (pc := 54) dX2_passes_54 kf_RX2_13 hr rfl ?_
    refine x_topi (fun v57 ev57 => ?_)
    refine x_istore (pc := 57) (lv' := [(0, .ref r), (1, .int p), (2, .int s), (3, .int k), (4, .int v57)]) dX2_passes_57 (by decide) rfl ?_
    refine x_goto (pc := 59) (tgt := 86) dX2_passes_59 (by decide) ?_
    refine x_iload_n (pc := 86) dX2_passes_86 rfl rfl ?_
    refine x_lsw (pc := 87) (dt := 136) [(60, 112), (62, 124)] dX2_passes_87 (by decide +kernel) (by decide +kernel) (by decide) ?_
    refine xsw_c (fun c87 => ?_) (fun n87_60 => ?_)
    · skip
      refine x_iload (pc := 112) dX2_passes_112 rfl ?_
      refine x_iload_n (pc := 114) dX2_passes_114 rfl rfl ?_
      refine x_icmp_ge (pc := 115) (tgt := 122) dX2_passes_115 (by decide) (fun c115 => ?_) (fun c115 => ?_)
      · skip
        refine x_iconst (pc := 122) (v := 0) dX2_passes_122 (by decide) ?_
        refine x_ireturn (pc := 123) dX2_passes_123 ⟨_, rfl, by decide⟩ ⟨Nat.le_refl _, Nat.le_refl _⟩ ?_
        exact K2 ((passC_lt (by rw [ev57]; unfold lkSel; rw [if_neg n1_98, if_neg n1_99, if_pos c1]) c87).trans (decide_eq_false (i32_nlt c115)))
      · skip
        refine x_iconst (pc := 118) (v := 1) dX2_passes_118 (by decide) ?_
        refine x_goto (pc := 119) (tgt := 123) dX2_passes_119 (by decide) ?_
        refine x_ireturn (pc := 123) dX2_passes_123 ⟨_, rfl, by decide⟩ ⟨Nat.le_refl _, Nat.le_refl _⟩ ?_
        exact K1 ((passC_lt (by rw [ev57]; unfold lkSel; rw [if_neg n1_98, if_neg n1_99, if_pos c1]) c87).trans (decide_eq_true (i32_lt c115)))
    refine xsw_c (fun c87 => ?_) (fun n87_62 => ?_)
    · skip
      refine x_iload (pc := 124) dX2_passes_124 rfl ?_
      refine x_iload_n (pc := 126) dX2_passes_126 rfl rfl ?_
      refine x_icmp_le (pc := 127) (tgt := 134) dX2_passes_127 (by decide) (fun c127 => ?_) (fun c127 => ?_)
      · skip
        refine x_iconst (pc := 134) (v := 0) dX2_passes_134 (by decide) ?_
        refine x_ireturn (pc := 135) dX2_passes_135 ⟨_, rfl, by decide⟩ ⟨Nat.le_refl _, Nat.le_refl _⟩ ?_
        exact K2 ((passC_gt (by rw [ev57]; unfold lkSel; rw [if_neg n1_98, if_neg n1_99, if_pos c1]) n87_60 c87).trans (decide_eq_false (i32_nlt c127)))
      · skip
        refine x_iconst (pc := 130) (v := 1) dX2_passes_130 (by decide) ?_
        refine x_goto (pc := 131) (tgt := 135) dX2_passes_131 (by decide) ?_
        refine x_ireturn (pc := 135) dX2_passes_135 ⟨_, rfl, by decide⟩ ⟨Nat.le_refl _, Nat.le_refl _⟩ ?_
        exact K1 ((passC_gt (by rw [ev57]; unfold lkSel; rw [if_neg n1_98, if_neg n1_99, if_pos c1]) n87_60 c87).trans (decide_eq_true (i32_lt c127)))
    refine xsw_n ?_
    refine x_iload (pc := 136) dX2_passes_136 rfl ?_
    refine x_iload_n (pc := 138) dX2_passes_138 rfl rfl ?_
    refine x_icmp_ne (pc := 139) (tgt := 146) dX2_passes_139 (by decide) (fun c139 => ?_) (fun c139 => ?_)
    · skip
      refine x_iconst (pc := 146) (v := 0) dX2_passes_146 (by decide) ?_
      refine x_ireturn (pc := 147) dX2_passes_147 ⟨_, rfl, by decide⟩ ⟨Nat.le_refl _, Nat.le_refl _⟩ ?_
      exact K2 ((passC_eq (by rw [ev57]; unfold lkSel; rw [if_neg n1_98, if_neg n1_99, if_pos c1]) n87_60 n87_62).trans (decide_eq_false c139))
    · skip
      refine x_iconst (pc := 142) (v := 1) dX2_passes_142 (by decide) ?_
      refine x_goto (pc := 143) (tgt := 147) dX2_passes_143 (by decide) ?_
      refine x_ireturn (pc := 147) dX2_passes_147 ⟨_, rfl, by decide⟩ ⟨Nat.le_refl _, Nat.le_refl _⟩ ?_
      exact K1 ((passC_eq (by rw [ev57]; unfold lkSel; rw [if_neg n1_98, if_neg n1_99, if_pos c1]) n87_60 n87_62).trans (decide_eq_true c139))
  refine xsw_c (fun c1 => ?_) (fun n1_110 => ?_)
  · skip
    refine x_aload_n (pc := 44) dX2_passes_44 rfl rfl ?_
    refine x_get (pc := 45) dX2_passes_45 kf_RX2_7 hr rfl ?_
    refine x_topi (fun v48 ev48 => ?_)
    refine x_istore (pc := 48) (lv' := [(0, .ref r), (1, .int p), (2, .int s), (3, .int k), (4, .int v48)]) dX2_passes_48 (by decide) rfl ?_
    refine x_goto (pc := 50) (tgt := 86) dX2_passes_50 (by decide) ?_
    refine x_iload_n (pc := 86) dX2_passes_86 rfl rfl ?_
    refine x_lsw (pc := 87) (dt := 136) [(60, 112), (62, 124)] dX2_passes_87 (by decide +kernel) (by decide +kernel) (by decide) ?_
    refine xsw_c (fun c87 => ?_) (fun n87_60 => ?_)
    · skip
      refine x_iload (pc := 112) dX2_passes_112 rfl ?_
      refine x_iload_n (pc := 114) dX2_passes_114 rfl rfl ?_
      refine x_icmp_ge (pc := 115) (tgt := 122) dX2_passes_115 (by decide) (fun c115 => ?_) (fun c115 => ?_)
      · skip
        refine x_iconst (pc := 122) (v := 0) dX2_passes_122 (by decide) ?_
        refine x_ireturn (pc := 123) dX2_passes_123 ⟨_, rfl, by decide⟩ ⟨Nat.le_refl _, Nat.le_refl _⟩ ?_
        exact K2 ((passC_lt (by rw [ev48]; unfold lkSel; rw [if_neg n1_98, if_neg n1_99, if_neg n1_104, if_pos c1]) c87).trans (decide_eq_false (i32_nlt c115)))
      · skip
        refine x_iconst (pc := 118) (v := 1) dX2_passes_118 (by decide) ?_
        refine x_goto (pc := 119) (tgt := 123) dX2_passes_119 (by decide) ?_
        refine x_ireturn (pc := 123) dX2_passes_123 ⟨_, rfl, by decide⟩ ⟨Nat.le_refl _, Nat.le_refl _⟩ ?_
        exact K1 ((passC_lt (by rw [ev48]; unfold lkSel; rw [if_neg n1_98, if_neg n1_99, if_neg n1_104, if_pos c1]) c87).trans (decide_eq_true (i32_lt c115)))
    refine xsw_c (fun c87 => ?_) (fun n87_62 => ?_)
    · skip
      refine x_iload (pc := 124) dX2_passes_124 rfl ?_
      refine x_iload_n (pc := 126) dX2_passes_126 rfl rfl ?_
      refine x_icmp_le (pc := 127) (tgt := 134) dX2_passes_127 (by decide) (fun c127 => ?_) (fun c127 => ?_)
      · skip
        refine x_iconst (pc := 134) (v := 0) dX2_passes_134 (by decide) ?_
        refine x_ireturn (pc := 135) dX2_passes_135 ⟨_, rfl, by decide⟩ ⟨Nat.le_refl _, Nat.le_refl _⟩ ?_
        exact K2 ((passC_gt (by rw [ev48]; unfold lkSel; rw [if_neg n1_98, if_neg n1_99, if_neg n1_104, if_pos c1]) n87_60 c87).trans (decide_eq_false (i32_nlt c127)))
      · skip
        refine x_iconst (pc := 130) (v := 1) dX2_passes_130 (by decide) ?_
        refine x_goto (pc := 131) (tgt := 135) dX2_passes_131 (by decide) ?_
        refine x_ireturn (pc := 135) dX2_passes_135 ⟨_, rfl, by decide⟩ ⟨Nat.le_refl _, Nat.le_refl _⟩ ?_
        exact K1 ((passC_gt (by rw [ev48]; unfold lkSel; rw [if_neg n1_98, if_neg n1_99, if_neg n1_104, if_pos c1]) n87_60 c87).trans (decide_eq_true (i32_lt c127)))
    refine xsw_n ?_
    refine x_iload (pc := 136) dX2_passes_136 rfl ?_
    refine x_iload_n (pc := 138) dX2_passes_138 rfl rfl ?_
    refine x_icmp_ne (pc := 139) (tgt := 146) dX2_passes_139 (by decide) (fun c139 => ?_) (fun c139 => ?_)
    · skip
      refine x_iconst (pc := 146) (v := 0) dX2_passes_146 (by decide) ?_
      refine x_ireturn (pc := 147) dX2_passes_147 ⟨_, rfl, by decide⟩ ⟨Nat.le_refl _, Nat.le_refl _⟩ ?_
      exact K2 ((passC_eq (by rw [ev48]; unfold lkSel; rw [if_neg n1_98, if_neg n1_99, if_neg n1_104, if_pos c1]) n87_60 n87_62).trans (decide_eq_false c139))
    · skip
      refine x_iconst (pc := 142) (v := 1) dX2_passes_142 (by decide) ?_
      refine x_goto (pc := 143) (tgt := 147) dX2_passes_143 (by decide) ?_
      refine x_ireturn (pc := 147) dX2_passes_147 ⟨_, rfl, by decide⟩ ⟨Nat.le_refl _, Nat.le_refl _⟩ ?_
      exact K1 ((passC_eq (by rw [ev48]; unfold lkSel; rw [if_neg n1_98, if_neg n1_99, if_neg n1_104, if_pos c1]) n87_60 n87_62).trans (decide_eq_true c139))
  refine xsw_n ?_
  refine x_aload_n (pc := 80) dX2_passes_80 rfl rfl ?_
  refine x_get (pc := 81) dX2_passes_81 kf_RX2_22 hr rfl ?_
  refine x_topi (fun v84 ev84 => ?_)
  refine x_istore (pc := 84) (lv' := [(0, .ref r), (1, .int p), (2, .int s), (3, .int k), (4, .int v84)]) dX2_passes_84 (by decide) rfl ?_
  refine x_iload_n (pc := 86) dX2_passes_86 rfl rfl ?_
  refine x_lsw (pc := 87) (dt := 136) [(60, 112), (62, 124)] dX2_passes_87 (by decide +kernel) (by decide +kernel) (by decide) ?_
  refine xsw_c (fun c87 => ?_) (fun n87_60 => ?_)
  · skip
    refine x_iload (pc := 112) dX2_passes_112 rfl ?_
    refine x_iload_n (pc := 114) dX2_passes_114 rfl rfl ?_
    refine x_icmp_ge (pc := 115) (tgt := 122) dX2_passes_115 (by decide) (fun c115 => ?_) (fun c115 => ?_)
    · skip
      refine x_iconst (pc := 122) (v := 0) dX2_passes_122 (by decide) ?_
      refine x_ireturn (pc := 123) dX2_passes_123 ⟨_, rfl, by decide⟩ ⟨Nat.le_refl _, Nat.le_refl _⟩ ?_
      exact K2 ((passC_lt (by rw [ev84]; unfold lkSel; rw [if_neg n1_98, if_neg n1_99, if_neg n1_104, if_neg n1_110]) c87).trans (decide_eq_false (i32_nlt c115)))
    · skip
      refine x_iconst (pc := 118) (v := 1) dX2_passes_118 (by decide) ?_
      refine x_goto (pc := 119) (tgt := 123) dX2_passes_119 (by decide) ?_
      refine x_ireturn (pc := 123) dX2_passes_123 ⟨_, rfl, by decide⟩ ⟨Nat.le_refl _, Nat.le_refl _⟩ ?_
      exact K1 ((passC_lt (by rw [ev84]; unfold lkSel; rw [if_neg n1_98, if_neg n1_99, if_neg n1_104, if_neg n1_110]) c87).trans (decide_eq_true (i32_lt c115)))
  refine xsw_c (fun c87 => ?_) (fun n87_62 => ?_)
  · skip
    refine x_iload (pc := 124) dX2_passes_124 rfl ?_
    refine x_iload_n (pc := 126) dX2_passes_126 rfl rfl ?_
    refine x_icmp_le (pc := 127) (tgt := 134) dX2_passes_127 (by decide) (fun c127 => ?_) (fun c127 => ?_)
    · skip
      refine x_iconst (pc := 134) (v := 0) dX2_passes_134 (by decide) ?_
      refine x_ireturn (pc := 135) dX2_passes_135 ⟨_, rfl, by decide⟩ ⟨Nat.le_refl _, Nat.le_refl _⟩ ?_
      exact K2 ((passC_gt (by rw [ev84]; unfold lkSel; rw [if_neg n1_98, if_neg n1_99, if_neg n1_104, if_neg n1_110]) n87_60 c87).trans (decide_eq_false (i32_nlt c127)))
    · skip
      refine x_iconst (pc := 130) (v := 1) dX2_passes_130 (by decide) ?_
      refine x_goto (pc := 131) (tgt := 135) dX2_passes_131 (by decide) ?_
      refine x_ireturn (pc := 135) dX2_passes_135 ⟨_, rfl, by decide⟩ ⟨Nat.le_refl _, Nat.le_refl _⟩ ?_
      exact K1 ((passC_gt (by rw [ev84]; unfold lkSel; rw [if_neg n1_98, if_neg n1_99, if_neg n1_104, if_neg n1_110]) n87_60 c87).trans (decide_eq_true (i32_lt c127)))
  refine xsw_n ?_
  refine x_iload (pc := 136) dX2_passes_136 rfl ?_
  refine x_iload_n (pc := 138) dX2_passes_138 rfl rfl ?_
  refine x_icmp_ne (pc := 139) (tgt := 146) dX2_passes_139 (by decide) (fun c139 => ?_) (fun c139 => ?_)
  · skip
    refine x_iconst (pc := 146) (v := 0) dX2_passes_146 (by decide) ?_
    refine x_ireturn (pc := 147) dX2_passes_147 ⟨_, rfl, by decide⟩ ⟨Nat.le_refl _, Nat.le_refl _⟩ ?_
    exact K2 ((passC_eq (by rw [ev84]; unfold lkSel; rw [if_neg n1_98, if_neg n1_99, if_neg n1_104, if_neg n1_110]) n87_60 n87_62).trans (decide_eq_false c139))
  · skip
    refine x_iconst (pc := 142) (v := 1) dX2_passes_142 (by decide) ?_
    refine x_goto (pc := 143) (tgt := 147) dX2_passes_143 (by decide) ?_
    refine x_ireturn (pc := 147) dX2_passes_147 ⟨_, rfl, by decide⟩ ⟨Nat.le_refl _, Nat.le_refl _⟩ ?_
    exact K1 ((passC_eq (by rw [ev84]; unfold lkSel; rw [if_neg n1_98, if_neg n1_99, if_neg n1_104, if_neg n1_110]) n87_60 n87_62).trans (decide_eq_true c139))

def xRing (sh : Nat → Nat × Nat) (R : xR) (c : Nat) : Prop := sh c = (0, 4) ∧ R c 0 = some (c + 1) ∧ R c 1 = some (c + 3) ∧ R c 2 = some (c + 5) ∧ xRow sh R (c + 1) (c + 2) 100 ∧ xRow sh R (c + 3) (c + 4) 100 ∧ xRow sh R (c + 5) (c + 6) 100
/-- a look's two sums -/
def xlk (I : xI) (b : Nat) (y c : Int32) : xI := fun a k => if a = b ∧ k = 5 then y else if a = b ∧ k = 6 then c else I a k
theorem xlk_ne {I : xI} {b a : Nat} {y c : Int32} (h : a ≠ b) : xlk I b y c a = I a := funext fun k => by
  unfold xlk
  rw [if_neg (fun q => h q.1), if_neg (fun q => h q.1)]
theorem xlk_5 {I : xI} {b : Nat} {y c : Int32} : xlk I b y c b 5 = y := if_pos ⟨rfl, rfl⟩
theorem xlk_6 {I : xI} {b : Nat} {y c : Int32} : xlk I b y c b 6 = c := by
  unfold xlk
  rw [if_neg (by omega), if_pos ⟨rfl, rfl⟩]
theorem xlk_lo {I : xI} {b k : Nat} {y c : Int32} (h : k < 5) : xlk I b y c b k = I b k := by
  unfold xlk
  rw [if_neg (by omega), if_neg (by omega)]
theorem xlk_y {I : xI} {b : Nat} {y c z : Int32} : up2 (xlk I b y c) b 5 z = xlk I b z c := by
  funext a k
  unfold up2 xlk
  by_cases h : a = b ∧ k = 5
  · rw [if_pos h, if_pos h]
  · rw [if_neg h, if_neg h, if_neg h]
theorem xlk_c {I : xI} {b : Nat} {y c z : Int32} : up2 (xlk I b y c) b 6 z = xlk I b y z := by
  funext a k
  unfold up2 xlk
  by_cases h : a = b ∧ k = 6
  · have h5 : ¬ (a = b ∧ k = 5) := by omega
    rw [if_pos h, if_neg h5, if_pos h]
  · by_cases h5 : a = b ∧ k = 5
    · rw [if_neg h, if_pos h5, if_pos h5]
    · rw [if_neg h, if_neg h5, if_neg h5, if_neg h, if_neg h]
theorem xlk_self {I : xI} {b : Nat} : xlk I b (I b 5) (I b 6) = I := by
  funext a k
  unfold xlk
  by_cases h : a = b ∧ k = 5
  · rw [if_pos h, h.1, h.2]
  · rw [if_neg h]
    by_cases h : a = b ∧ k = 6
    · rw [if_pos h, h.1, h.2]
    · rw [if_neg h]
theorem xlk_sel {I : xI} {b : Nat} {y c p s k : Int32} : passC (xlk I b y c b) p s k = passC (I b) p s k := by
  unfold passC lkSel
  rw [xlk_lo (by decide), xlk_lo (by decide), xlk_lo (by decide), xlk_lo (by decide), xlk_lo (by decide)]
theorem sh_ne {sh : Nat → Nat × Nat} {a b : Nat} {u v : Nat × Nat} (ha : sh a = u) (hb : sh b = v) (h : u ≠ v) : a ≠ b := fun q => h (by rw [← ha, ← hb, q])
/-- one part of a RING, as the class goes through it -/
def stC (lk pf sf nf : Nat → Int32) (i : Nat) (s : Int64 × Int32 × Int32) : Int64 × Int32 × Int32 :=
  if pf i = 33 then (s.1 ^^^ 1, s.2.1, s.2.2)
  else if pf i = 38 then (if lg_cmp (s.1 &&& 1) 0 = 0 then xlushr s.1 1 &&& (-2) else xlushr s.1 1, s.2.1, s.2.2)
  else if pf i = 67 then (0, s.2.1, s.2.2 + (if lg_cmp (s.1 &&& 1) 0 = 0 then 0 else nf i))
  else if pf i = 89 then (0, s.2.1 + (if lg_cmp (s.1 &&& 1) 0 = 0 then 0 else nf i), s.2.2)
  else if pf i = 124 then (xlushr s.1 1 ||| (s.1 &&& 1), s.2.1, s.2.2)
  else (xlshl s.1 1 ||| (if passC lk (pf i) (sf i) (nf i) = true then (1 : Int32) else 0).toInt64, s.2.1, s.2.2)
def foldC (lk pf sf nf : Nat → Int32) (y0 c0 : Int32) : Nat → Int64 × Int32 × Int32
  | 0 => (0, y0, c0)
  | i + 1 => stC lk pf sf nf i (foldC lk pf sf nf y0 c0 i)
set_option maxHeartbeats 4000000 in
set_option maxRecDepth 100000 in
theorem l_addTo {T : xT} {n : Nat} {sh : Nat → Nat × Nat} {I : xI} {R : xR} {L : xL} {P : xPost} {c lk m : Nat} (hr : xRing sh R c) (hlk : sh lk = (0, 2)) (hm1 : I (c + 1) 1 = nI m) (hm2 : I (c + 3) 1 = nI m) (hm3 : I (c + 5) 1 = nI m) (hml : m ≤ 100) (K : P (n, sh, 0, 0) (xlk I lk (foldC (I lk) (I (c + 2)) (I (c + 4)) (I (c + 6)) (I lk 5) (I lk 6) m).2.1 (foldC (I lk) (I (c + 2)) (I (c + 4)) (I (c + 6)) (I lk 5) (I lk 6) m).2.2) R L none) : ∀ (w i : Nat), i + w = m → ∀ (tr : Int64) (y z : Int32), foldC (I lk) (I (c + 2)) (I (c + 4)) (I (c + 6)) (I lk 5) (I lk 6) i = (tr, y, z) → X T zX4_addTo 1 0 0 P 5 [(0, .ref c), (1, .ref lk), (2, .long tr), (4, .int (nI i))] [] (n, sh, 0, 0) (xlk I lk y z) R L := by
  obtain ⟨r1, r2, r3, r4, r5, r6, r7⟩ := hr
  have q1 : ∀ y z, xlk I lk y z (c + 1) = I (c + 1) := fun y z => xlk_ne (sh_ne r5.1 hlk (by decide))
  have q2 : ∀ y z, xlk I lk y z (c + 2) = I (c + 2) := fun y z => xlk_ne (sh_ne r5.2.2.1 hlk (by decide))
  have q3 : ∀ y z, xlk I lk y z (c + 3) = I (c + 3) := fun y z => xlk_ne (sh_ne r6.1 hlk (by decide))
  have q4 : ∀ y z, xlk I lk y z (c + 4) = I (c + 4) := fun y z => xlk_ne (sh_ne r6.2.2.1 hlk (by decide))
  have q5 : ∀ y z, xlk I lk y z (c + 5) = I (c + 5) := fun y z => xlk_ne (sh_ne r7.1 hlk (by decide))
  have q6 : ∀ y z, xlk I lk y z (c + 6) = I (c + 6) := fun y z => xlk_ne (sh_ne r7.2.2.1 hlk (by decide))
  intro w
  induction w with
  | zero =>
    intro i hi tr y z hf
    have : i = m := by omega
    rw [this] at hf
    rw [hf] at K
    refine x_iload (pc := 5) dX4_addTo_5 rfl ?_
    refine x_aload_n (pc := 7) dX4_addTo_7 rfl rfl ?_
    refine x_getr (pc := 8) dX4_addTo_8 kf_RX4_14 r1 rfl r2 ?_
    refine x_get (pc := 11) dX4_addTo_11 kf_RX4_40 r5.1 rfl ?_
    rw [q1, hm1]
    refine x_icmpn_ge_t (pc := 14) (tgt := 235) (a := i) (b := m) dX4_addTo_14 (by decide) (by omega) (by omega) (by omega) ?_
    refine x_return (pc := 235) dX4_addTo_235 rfl ⟨Nat.le_refl _, Nat.le_refl _⟩ ?_
    exact K
  | succ w ih =>
    intro i hw tr y z hf
    have hi : i < m := by omega
    refine x_iload (pc := 5) dX4_addTo_5 rfl ?_
    refine x_aload_n (pc := 7) dX4_addTo_7 rfl rfl ?_
    refine x_getr (pc := 8) dX4_addTo_8 kf_RX4_14 r1 rfl r2 ?_
    refine x_get (pc := 11) dX4_addTo_11 kf_RX4_40 r5.1 rfl ?_
    rw [q1, hm1]
    refine x_icmpn_ge_f (pc := 14) (tgt := 235) (a := i) (b := m) dX4_addTo_14 (by decide) (by omega) (by omega) (by omega) ?_
    refine x_aload_n (pc := 17) dX4_addTo_17 rfl rfl ?_
    refine x_getr (pc := 18) dX4_addTo_18 kf_RX4_14 r1 rfl r2 ?_
    refine x_iload (pc := 21) dX4_addTo_21 rfl ?_
    refine x_callV (pc := 23) (As := [.int _]) dX4_addTo_23 km_X5_at kv_X5_at kl_RX4_43 r5.1 rfl rfl (by decide) ⟨Nat.le_refl _, Nat.le_refl _⟩ rfl (Nat.le_of_ble_eq_true rfl) (Nat.le_of_ble_eq_true rfl) (c_at r5 (⟨rfl, rfl, ?_⟩))
    rw [q1, q2, hm1, rAt_in hi hml (by omega)]
    refine x_istore (pc := 26) (lv' := [(0, .ref c), (1, .ref lk), (2, .long tr), (4, .int (nI i)), (5, .int (I (c + 2) i))]) dX4_addTo_26 (by decide) rfl ?_
    refine x_aload_n (pc := 28) dX4_addTo_28 rfl rfl ?_
    refine x_getr (pc := 29) dX4_addTo_29 kf_RX4_23 r1 rfl r4 ?_
    refine x_iload (pc := 32) dX4_addTo_32 rfl ?_
    refine x_callV (pc := 34) (As := [.int _]) dX4_addTo_34 km_X5_at kv_X5_at kl_RX4_43 r7.1 rfl rfl (by decide) ⟨Nat.le_refl _, Nat.le_refl _⟩ rfl (Nat.le_of_ble_eq_true rfl) (Nat.le_of_ble_eq_true rfl) (c_at r7 (⟨rfl, rfl, ?_⟩))
    rw [q5, q6, hm3, rAt_in hi hml (by omega)]
    refine x_istore (pc := 37) (lv' := [(0, .ref c), (1, .ref lk), (2, .long tr), (4, .int (nI i)), (5, .int (I (c + 2) i)), (6, .int (I (c + 6) i))]) dX4_addTo_37 (by decide) rfl ?_
    refine x_lload_n (pc := 39) dX4_addTo_39 rfl rfl ?_
    refine x_lconst (pc := 40) (v := 1) dX4_addTo_40 (by decide) ?_
    refine x_land (pc := 41) dX4_addTo_41 ?_
    refine x_lconst (pc := 42) (v := 0) dX4_addTo_42 (by decide) ?_
    refine x_lcmp (pc := 43) dX4_addTo_43 ?_
    refine x_if_eq (pc := 44) (tgt := 51) dX4_addTo_44 (by decide) (fun c44 => ?_) (fun c44 => ?_)
    · skip
      refine x_iconst (pc := 51) (v := 0) dX4_addTo_51 (by decide) ?_
      refine x_istore (pc := 52) (lv' := [(0, .ref c), (1, .ref lk), (2, .long tr), (4, .int (nI i)), (5, .int (I (c + 2) i)), (6, .int (I (c + 6) i)), (7, .int 0)]) dX4_addTo_52 (by decide) rfl ?_
      refine x_iload (pc := 54) dX4_addTo_54 rfl ?_
      refine x_lsw (pc := 56) (dt := 198) [(33, 108), (38, 115), (67, 173), (89, 148), (124, 137)] dX4_addTo_56 (by decide +kernel) (by decide +kernel) (by decide) ?_
      refine xsw_c (fun c56 => ?_) (fun n56_33 => ?_)
      · skip
        refine x_lload_n (pc := 108) dX4_addTo_108 rfl rfl ?_
        refine x_lconst (pc := 109) (v := 1) dX4_addTo_109 (by decide) ?_
        refine x_lxor (pc := 110) dX4_addTo_110 ?_
        refine x_topl (fun v111 ev111 => ?_)
        refine x_lstore_n (pc := 111) (lv' := [(0, .ref c), (1, .ref lk), (2, .long v111), (4, .int (nI i)), (5, .int (I (c + 2) i)), (6, .int (I (c + 6) i)), (7, .int 0)]) dX4_addTo_111 rfl (by decide) rfl ?_
        refine x_goto (pc := 112) (tgt := 229) dX4_addTo_112 (by decide) ?_
        refine x_iinc (pc := 229) (v := nI (i + 1)) (lv' := [(0, .ref c), (1, .ref lk), (2, .long v111), (4, .int (nI (i + 1))), (5, .int (I (c + 2) i)), (6, .int (I (c + 6) i)), (7, .int 0)]) dX4_addTo_229 rfl (nI_1 _) (by decide) rfl ?_
        refine x_goto (pc := 232) (tgt := 5) dX4_addTo_232 (by decide) ?_
        refine X.keep [0, 1, 2, 4] rfl ?_
        exact ih (i + 1) (by omega) _ _ _ (by rw [show foldC (I lk) (I (c + 2)) (I (c + 4)) (I (c + 6)) (I lk 5) (I lk 6) (i + 1) = stC (I lk) (I (c + 2)) (I (c + 4)) (I (c + 6)) i (foldC (I lk) (I (c + 2)) (I (c + 4)) (I (c + 6)) (I lk 5) (I lk 6) i) from rfl, hf]; unfold stC; simp only [c44, c56, ev111, if_true, if_false, ↓reduceIte, Int32.add_zero, Bool.false_eq_true]; try rfl)
      refine xsw_c (fun c56 => ?_) (fun n56_38 => ?_)
      · skip
        refine x_iload (pc := 115) dX4_addTo_115 rfl ?_
        refine x_if_eq_t (pc := 117) (tgt := 126) dX4_addTo_117 (by decide) (by decide) ?_
        refine x_lload_n (pc := 126) dX4_addTo_126 rfl rfl ?_
        refine x_iconst (pc := 127) (v := 1) dX4_addTo_127 (by decide) ?_
        refine x_lushr (pc := 128) dX4_addTo_128 ?_
        refine x_ldc2 (pc := 129) (v := -2) dX4_addTo_129 kk_RX4_47 ?_
        refine x_land (pc := 132) dX4_addTo_132 ?_
        refine x_topl (fun v133 ev133 => ?_)
        refine x_lstore_n (pc := 133) (lv' := [(0, .ref c), (1, .ref lk), (2, .long v133), (4, .int (nI i)), (5, .int (I (c + 2) i)), (6, .int (I (c + 6) i)), (7, .int 0)]) dX4_addTo_133 rfl (by decide) rfl ?_
        refine x_goto (pc := 134) (tgt := 229) dX4_addTo_134 (by decide) ?_
        refine x_iinc (pc := 229) (v := nI (i + 1)) (lv' := [(0, .ref c), (1, .ref lk), (2, .long v133), (4, .int (nI (i + 1))), (5, .int (I (c + 2) i)), (6, .int (I (c + 6) i)), (7, .int 0)]) dX4_addTo_229 rfl (nI_1 _) (by decide) rfl ?_
        refine x_goto (pc := 232) (tgt := 5) dX4_addTo_232 (by decide) ?_
        refine X.keep [0, 1, 2, 4] rfl ?_
        exact ih (i + 1) (by omega) _ _ _ (by rw [show foldC (I lk) (I (c + 2)) (I (c + 4)) (I (c + 6)) (I lk 5) (I lk 6) (i + 1) = stC (I lk) (I (c + 2)) (I (c + 4)) (I (c + 6)) i (foldC (I lk) (I (c + 2)) (I (c + 4)) (I (c + 6)) (I lk 5) (I lk 6) i) from rfl, hf]; unfold stC; simp only [c44, n56_33, c56, ev133, if_true, if_false, ↓reduceIte, Int32.add_zero, Bool.false_eq_true]; try rfl)
      refine xsw_c (fun c56 => ?_) (fun n56_67 => ?_)
      · skip
        refine x_aload_n (pc := 173) dX4_addTo_173 rfl rfl ?_
        refine x_dup (pc := 174) dX4_addTo_174 rfl ?_
        refine x_get (pc := 175) dX4_addTo_175 kf_RX4_54 hlk rfl ?_
        rw [xlk_6]
        refine x_iload (pc := 178) dX4_addTo_178 rfl ?_
        refine x_if_eq_t (pc := 180) (tgt := 188) dX4_addTo_180 (by decide) (by decide) ?_
        refine x_iconst (pc := 188) (v := 0) dX4_addTo_188 (by decide) ?_
        refine x_iadd (pc := 189) dX4_addTo_189 ?_
        refine x_put (pc := 190) dX4_addTo_190 kf_RX4_54 hlk rfl (Or.inl kb_2_6) ?_
        rw [xlk_c]
        refine x_lconst (pc := 193) (v := 0) dX4_addTo_193 (by decide) ?_
        refine x_lstore_n (pc := 194) (lv' := [(0, .ref c), (1, .ref lk), (2, .long 0), (4, .int (nI i)), (5, .int (I (c + 2) i)), (6, .int (I (c + 6) i)), (7, .int 0)]) dX4_addTo_194 rfl (by decide) rfl ?_
        refine x_goto (pc := 195) (tgt := 229) dX4_addTo_195 (by decide) ?_
        refine x_iinc (pc := 229) (v := nI (i + 1)) (lv' := [(0, .ref c), (1, .ref lk), (2, .long 0), (4, .int (nI (i + 1))), (5, .int (I (c + 2) i)), (6, .int (I (c + 6) i)), (7, .int 0)]) dX4_addTo_229 rfl (nI_1 _) (by decide) rfl ?_
        refine x_goto (pc := 232) (tgt := 5) dX4_addTo_232 (by decide) ?_
        refine X.keep [0, 1, 2, 4] rfl ?_
        exact ih (i + 1) (by omega) _ _ _ (by rw [show foldC (I lk) (I (c + 2)) (I (c + 4)) (I (c + 6)) (I lk 5) (I lk 6) (i + 1) = stC (I lk) (I (c + 2)) (I (c + 4)) (I (c + 6)) i (foldC (I lk) (I (c + 2)) (I (c + 4)) (I (c + 6)) (I lk 5) (I lk 6) i) from rfl, hf]; unfold stC; simp only [c44, n56_33, n56_38, c56, if_true, if_false, ↓reduceIte, Int32.add_zero, Bool.false_eq_true]; try rfl)
      refine xsw_c (fun c56 => ?_) (fun n56_89 => ?_)
      · skip
        refine x_aload_n (pc := 148) dX4_addTo_148 rfl rfl ?_
        refine x_dup (pc := 149) dX4_addTo_149 rfl ?_
        refine x_get (pc := 150) dX4_addTo_150 kf_RX4_49 hlk rfl ?_
        rw [xlk_5]
        refine x_iload (pc := 153) dX4_addTo_153 rfl ?_
        refine x_if_eq_t (pc := 155) (tgt := 163) dX4_addTo_155 (by decide) (by decide) ?_
        refine x_iconst (pc := 163) (v := 0) dX4_addTo_163 (by decide) ?_
        refine x_iadd (pc := 164) dX4_addTo_164 ?_
        refine x_put (pc := 165) dX4_addTo_165 kf_RX4_49 hlk rfl (Or.inl kb_2_5) ?_
        rw [xlk_y]
        refine x_lconst (pc := 168) (v := 0) dX4_addTo_168 (by decide) ?_
        refine x_lstore_n (pc := 169) (lv' := [(0, .ref c), (1, .ref lk), (2, .long 0), (4, .int (nI i)), (5, .int (I (c + 2) i)), (6, .int (I (c + 6) i)), (7, .int 0)]) dX4_addTo_169 rfl (by decide) rfl ?_
        refine x_goto (pc := 170) (tgt := 229) dX4_addTo_170 (by decide) ?_
        refine x_iinc (pc := 229) (v := nI (i + 1)) (lv' := [(0, .ref c), (1, .ref lk), (2, .long 0), (4, .int (nI (i + 1))), (5, .int (I (c + 2) i)), (6, .int (I (c + 6) i)), (7, .int 0)]) dX4_addTo_229 rfl (nI_1 _) (by decide) rfl ?_
        refine x_goto (pc := 232) (tgt := 5) dX4_addTo_232 (by decide) ?_
        refine X.keep [0, 1, 2, 4] rfl ?_
        exact ih (i + 1) (by omega) _ _ _ (by rw [show foldC (I lk) (I (c + 2)) (I (c + 4)) (I (c + 6)) (I lk 5) (I lk 6) (i + 1) = stC (I lk) (I (c + 2)) (I (c + 4)) (I (c + 6)) i (foldC (I lk) (I (c + 2)) (I (c + 4)) (I (c + 6)) (I lk 5) (I lk 6) i) from rfl, hf]; unfold stC; simp only [c44, n56_33, n56_38, n56_67, c56, if_true, if_false, ↓reduceIte, Int32.add_zero, Bool.false_eq_true]; try rfl)
      refine xsw_c (fun c56 => ?_) (fun n56_124 => ?_)
      · skip
        refine x_lload_n (pc := 137) dX4_addTo_137 rfl rfl ?_
        refine x_iconst (pc := 138) (v := 1) dX4_addTo_138 (by decide) ?_
        refine x_lushr (pc := 139) dX4_addTo_139 ?_
        refine x_lload_n (pc := 140) dX4_addTo_140 rfl rfl ?_
        refine x_lconst (pc := 141) (v := 1) dX4_addTo_141 (by decide) ?_
        refine x_land (pc := 142) dX4_addTo_142 ?_
        refine x_lor (pc := 143) dX4_addTo_143 ?_
        refine x_topl (fun v144 ev144 => ?_)
        refine x_lstore_n (pc := 144) (lv' := [(0, .ref c), (1, .ref lk), (2, .long v144), (4, .int (nI i)), (5, .int (I (c + 2) i)), (6, .int (I (c + 6) i)), (7, .int 0)]) dX4_addTo_144 rfl (by decide) rfl ?_
        refine x_goto (pc := 145) (tgt := 229) dX4_addTo_145 (by decide) ?_
        refine x_iinc (pc := 229) (v := nI (i + 1)) (lv' := [(0, .ref c), (1, .ref lk), (2, .long v144), (4, .int (nI (i + 1))), (5, .int (I (c + 2) i)), (6, .int (I (c + 6) i)), (7, .int 0)]) dX4_addTo_229 rfl (nI_1 _) (by decide) rfl ?_
        refine x_goto (pc := 232) (tgt := 5) dX4_addTo_232 (by decide) ?_
        refine X.keep [0, 1, 2, 4] rfl ?_
        exact ih (i + 1) (by omega) _ _ _ (by rw [show foldC (I lk) (I (c + 2)) (I (c + 4)) (I (c + 6)) (I lk 5) (I lk 6) (i + 1) = stC (I lk) (I (c + 2)) (I (c + 4)) (I (c + 6)) i (foldC (I lk) (I (c + 2)) (I (c + 4)) (I (c + 6)) (I lk 5) (I lk 6) i) from rfl, hf]; unfold stC; simp only [c44, n56_33, n56_38, n56_67, n56_89, c56, ev144, if_true, if_false, ↓reduceIte, Int32.add_zero, Bool.false_eq_true]; try rfl)
      refine xsw_n ?_
      refine x_lload_n (pc := 198) dX4_addTo_198 rfl rfl ?_
      refine x_iconst (pc := 199) (v := 1) dX4_addTo_199 (by decide) ?_
      refine x_lshl (pc := 200) dX4_addTo_200 ?_
      refine x_aload_n (pc := 201) dX4_addTo_201 rfl rfl ?_
      refine x_iload (pc := 202) dX4_addTo_202 rfl ?_
      refine x_aload_n (pc := 204) dX4_addTo_204 rfl rfl ?_
      refine x_getr (pc := 205) dX4_addTo_205 kf_RX4_20 r1 rfl r3 ?_
      refine x_iload (pc := 208) dX4_addTo_208 rfl ?_
      refine x_callV (pc := 210) (As := [.int _]) dX4_addTo_210 km_X5_at kv_X5_at kl_RX4_43 r6.1 rfl rfl (by decide) ⟨Nat.le_refl _, Nat.le_refl _⟩ rfl (Nat.le_of_ble_eq_true rfl) (Nat.le_of_ble_eq_true rfl) (c_at r6 (⟨rfl, rfl, ?_⟩))
      rw [q3, q4, hm2, rAt_in hi hml (by omega)]
      refine x_iload (pc := 213) dX4_addTo_213 rfl ?_
      refine x_callV (pc := 215) (As := [.int _, .int _, .int _]) dX4_addTo_215 km_X2_passes kv_X2_passes kl_RX4_57 hlk rfl rfl (by decide) ⟨Nat.le_refl _, Nat.le_refl _⟩ rfl (Nat.le_of_ble_eq_true rfl) (Nat.le_of_ble_eq_true rfl) (c_passes hlk (fun h => ⟨rfl, rfl, ?_⟩) (fun h => ⟨rfl, rfl, ?_⟩))
      · skip
        rw [xlk_sel] at h
        refine x_if_eq_f (pc := 218) (tgt := 225) dX4_addTo_218 (by decide) (by decide) ?_
        refine x_iconst (pc := 221) (v := 1) dX4_addTo_221 (by decide) ?_
        refine x_goto (pc := 222) (tgt := 226) dX4_addTo_222 (by decide) ?_
        refine x_i2l (pc := 226) dX4_addTo_226 ?_
        refine x_lor (pc := 227) dX4_addTo_227 ?_
        refine x_topl (fun v228 ev228 => ?_)
        refine x_lstore_n (pc := 228) (lv' := [(0, .ref c), (1, .ref lk), (2, .long v228), (4, .int (nI i)), (5, .int (I (c + 2) i)), (6, .int (I (c + 6) i)), (7, .int 0)]) dX4_addTo_228 rfl (by decide) rfl ?_
        refine x_iinc (pc := 229) (v := nI (i + 1)) (lv' := [(0, .ref c), (1, .ref lk), (2, .long v228), (4, .int (nI (i + 1))), (5, .int (I (c + 2) i)), (6, .int (I (c + 6) i)), (7, .int 0)]) dX4_addTo_229 rfl (nI_1 _) (by decide) rfl ?_
        refine x_goto (pc := 232) (tgt := 5) dX4_addTo_232 (by decide) ?_
        refine X.keep [0, 1, 2, 4] rfl ?_
        exact ih (i + 1) (by omega) _ _ _ (by rw [show foldC (I lk) (I (c + 2)) (I (c + 4)) (I (c + 6)) (I lk 5) (I lk 6) (i + 1) = stC (I lk) (I (c + 2)) (I (c + 4)) (I (c + 6)) i (foldC (I lk) (I (c + 2)) (I (c + 4)) (I (c + 6)) (I lk 5) (I lk 6) i) from rfl, hf]; unfold stC; simp only [c44, n56_33, n56_38, n56_67, n56_89, n56_124, h, ev228, if_true, if_false, ↓reduceIte, Int32.add_zero, Bool.false_eq_true]; try rfl)
      · skip
        rw [xlk_sel] at h
        refine x_if_eq_t (pc := 218) (tgt := 225) dX4_addTo_218 (by decide) (by decide) ?_
        refine x_iconst (pc := 225) (v := 0) dX4_addTo_225 (by decide) ?_
        refine x_i2l (pc := 226) dX4_addTo_226 ?_
        refine x_lor (pc := 227) dX4_addTo_227 ?_
        refine x_topl (fun v228 ev228 => ?_)
        refine x_lstore_n (pc := 228) (lv' := [(0, .ref c), (1, .ref lk), (2, .long v228), (4, .int (nI i)), (5, .int (I (c + 2) i)), (6, .int (I (c + 6) i)), (7, .int 0)]) dX4_addTo_228 rfl (by decide) rfl ?_
        refine x_iinc (pc := 229) (v := nI (i + 1)) (lv' := [(0, .ref c), (1, .ref lk), (2, .long v228), (4, .int (nI (i + 1))), (5, .int (I (c + 2) i)), (6, .int (I (c + 6) i)), (7, .int 0)]) dX4_addTo_229 rfl (nI_1 _) (by decide) rfl ?_
        refine x_goto (pc := 232) (tgt := 5) dX4_addTo_232 (by decide) ?_
        refine X.keep [0, 1, 2, 4] rfl ?_
        exact ih (i + 1) (by omega) _ _ _ (by rw [show foldC (I lk) (I (c + 2)) (I (c + 4)) (I (c + 6)) (I lk 5) (I lk 6) (i + 1) = stC (I lk) (I (c + 2)) (I (c + 4)) (I (c + 6)) i (foldC (I lk) (I (c + 2)) (I (c + 4)) (I (c + 6)) (I lk 5) (I lk 6) i) from rfl, hf]; unfold stC; simp only [c44, n56_33, n56_38, n56_67, n56_89, n56_124, h, ev228, if_true, if_false, ↓reduceIte, Int32.add_zero, Bool.false_eq_true]; try rfl)
    · skip
      refine x_iconst (pc := 47) (v := 1) dX4_addTo_47 (by decide) ?_
      refine x_goto (pc := 48) (tgt := 52) dX4_addTo_48 (by decide) ?_
      refine x_istore (pc := 52) (lv' := [(0, .ref c), (1, .ref lk), (2, .long tr), (4, .int (nI i)), (5, .int (I (c + 2) i)), (6, .int (I (c + 6) i)), (7, .int 1)]) dX4_addTo_52 (by decide) rfl ?_
      refine x_iload (pc := 54) dX4_addTo_54 rfl ?_
      refine x_lsw (pc := 56) (dt := 198) [(33, 108), (38, 115), (67, 173), (89, 148), (124, 137)] dX4_addTo_56 (by decide +kernel) (by decide +kernel) (by decide) ?_
      refine xsw_c (fun c56 => ?_) (fun n56_33 => ?_)
      · skip
        refine x_lload_n (pc := 108) dX4_addTo_108 rfl rfl ?_
        refine x_lconst (pc := 109) (v := 1) dX4_addTo_109 (by decide) ?_
        refine x_lxor (pc := 110) dX4_addTo_110 ?_
        refine x_topl (fun v111 ev111 => ?_)
        refine x_lstore_n (pc := 111) (lv' := [(0, .ref c), (1, .ref lk), (2, .long v111), (4, .int (nI i)), (5, .int (I (c + 2) i)), (6, .int (I (c + 6) i)), (7, .int 1)]) dX4_addTo_111 rfl (by decide) rfl ?_
        refine x_goto (pc := 112) (tgt := 229) dX4_addTo_112 (by decide) ?_
        refine x_iinc (pc := 229) (v := nI (i + 1)) (lv' := [(0, .ref c), (1, .ref lk), (2, .long v111), (4, .int (nI (i + 1))), (5, .int (I (c + 2) i)), (6, .int (I (c + 6) i)), (7, .int 1)]) dX4_addTo_229 rfl (nI_1 _) (by decide) rfl ?_
        refine x_goto (pc := 232) (tgt := 5) dX4_addTo_232 (by decide) ?_
        refine X.keep [0, 1, 2, 4] rfl ?_
        exact ih (i + 1) (by omega) _ _ _ (by rw [show foldC (I lk) (I (c + 2)) (I (c + 4)) (I (c + 6)) (I lk 5) (I lk 6) (i + 1) = stC (I lk) (I (c + 2)) (I (c + 4)) (I (c + 6)) i (foldC (I lk) (I (c + 2)) (I (c + 4)) (I (c + 6)) (I lk 5) (I lk 6) i) from rfl, hf]; unfold stC; simp only [c44, c56, ev111, if_true, if_false, ↓reduceIte, Int32.add_zero, Bool.false_eq_true]; try rfl)
      refine xsw_c (fun c56 => ?_) (fun n56_38 => ?_)
      · skip
        refine x_iload (pc := 115) dX4_addTo_115 rfl ?_
        refine x_if_eq_f (pc := 117) (tgt := 126) dX4_addTo_117 (by decide) (by decide) ?_
        refine x_lload_n (pc := 120) dX4_addTo_120 rfl rfl ?_
        refine x_iconst (pc := 121) (v := 1) dX4_addTo_121 (by decide) ?_
        refine x_lushr (pc := 122) dX4_addTo_122 ?_
        refine x_goto (pc := 123) (tgt := 133) dX4_addTo_123 (by decide) ?_
        refine x_topl (fun v133 ev133 => ?_)
        refine x_lstore_n (pc := 133) (lv' := [(0, .ref c), (1, .ref lk), (2, .long v133), (4, .int (nI i)), (5, .int (I (c + 2) i)), (6, .int (I (c + 6) i)), (7, .int 1)]) dX4_addTo_133 rfl (by decide) rfl ?_
        refine x_goto (pc := 134) (tgt := 229) dX4_addTo_134 (by decide) ?_
        refine x_iinc (pc := 229) (v := nI (i + 1)) (lv' := [(0, .ref c), (1, .ref lk), (2, .long v133), (4, .int (nI (i + 1))), (5, .int (I (c + 2) i)), (6, .int (I (c + 6) i)), (7, .int 1)]) dX4_addTo_229 rfl (nI_1 _) (by decide) rfl ?_
        refine x_goto (pc := 232) (tgt := 5) dX4_addTo_232 (by decide) ?_
        refine X.keep [0, 1, 2, 4] rfl ?_
        exact ih (i + 1) (by omega) _ _ _ (by rw [show foldC (I lk) (I (c + 2)) (I (c + 4)) (I (c + 6)) (I lk 5) (I lk 6) (i + 1) = stC (I lk) (I (c + 2)) (I (c + 4)) (I (c + 6)) i (foldC (I lk) (I (c + 2)) (I (c + 4)) (I (c + 6)) (I lk 5) (I lk 6) i) from rfl, hf]; unfold stC; simp only [c44, n56_33, c56, ev133, if_true, if_false, ↓reduceIte, Int32.add_zero, Bool.false_eq_true]; try rfl)
      refine xsw_c (fun c56 => ?_) (fun n56_67 => ?_)
      · skip
        refine x_aload_n (pc := 173) dX4_addTo_173 rfl rfl ?_
        refine x_dup (pc := 174) dX4_addTo_174 rfl ?_
        refine x_get (pc := 175) dX4_addTo_175 kf_RX4_54 hlk rfl ?_
        rw [xlk_6]
        refine x_iload (pc := 178) dX4_addTo_178 rfl ?_
        refine x_if_eq_f (pc := 180) (tgt := 188) dX4_addTo_180 (by decide) (by decide) ?_
        refine x_iload (pc := 183) dX4_addTo_183 rfl ?_
        refine x_goto (pc := 185) (tgt := 189) dX4_addTo_185 (by decide) ?_
        refine x_iadd (pc := 189) dX4_addTo_189 ?_
        refine x_put (pc := 190) dX4_addTo_190 kf_RX4_54 hlk rfl (Or.inl kb_2_6) ?_
        rw [xlk_c]
        refine x_lconst (pc := 193) (v := 0) dX4_addTo_193 (by decide) ?_
        refine x_lstore_n (pc := 194) (lv' := [(0, .ref c), (1, .ref lk), (2, .long 0), (4, .int (nI i)), (5, .int (I (c + 2) i)), (6, .int (I (c + 6) i)), (7, .int 1)]) dX4_addTo_194 rfl (by decide) rfl ?_
        refine x_goto (pc := 195) (tgt := 229) dX4_addTo_195 (by decide) ?_
        refine x_iinc (pc := 229) (v := nI (i + 1)) (lv' := [(0, .ref c), (1, .ref lk), (2, .long 0), (4, .int (nI (i + 1))), (5, .int (I (c + 2) i)), (6, .int (I (c + 6) i)), (7, .int 1)]) dX4_addTo_229 rfl (nI_1 _) (by decide) rfl ?_
        refine x_goto (pc := 232) (tgt := 5) dX4_addTo_232 (by decide) ?_
        refine X.keep [0, 1, 2, 4] rfl ?_
        exact ih (i + 1) (by omega) _ _ _ (by rw [show foldC (I lk) (I (c + 2)) (I (c + 4)) (I (c + 6)) (I lk 5) (I lk 6) (i + 1) = stC (I lk) (I (c + 2)) (I (c + 4)) (I (c + 6)) i (foldC (I lk) (I (c + 2)) (I (c + 4)) (I (c + 6)) (I lk 5) (I lk 6) i) from rfl, hf]; unfold stC; simp only [c44, n56_33, n56_38, c56, if_true, if_false, ↓reduceIte, Int32.add_zero, Bool.false_eq_true]; try rfl)
      refine xsw_c (fun c56 => ?_) (fun n56_89 => ?_)
      · skip
        refine x_aload_n (pc := 148) dX4_addTo_148 rfl rfl ?_
        refine x_dup (pc := 149) dX4_addTo_149 rfl ?_
        refine x_get (pc := 150) dX4_addTo_150 kf_RX4_49 hlk rfl ?_
        rw [xlk_5]
        refine x_iload (pc := 153) dX4_addTo_153 rfl ?_
        refine x_if_eq_f (pc := 155) (tgt := 163) dX4_addTo_155 (by decide) (by decide) ?_
        refine x_iload (pc := 158) dX4_addTo_158 rfl ?_
        refine x_goto (pc := 160) (tgt := 164) dX4_addTo_160 (by decide) ?_
        refine x_iadd (pc := 164) dX4_addTo_164 ?_
        refine x_put (pc := 165) dX4_addTo_165 kf_RX4_49 hlk rfl (Or.inl kb_2_5) ?_
        rw [xlk_y]
        refine x_lconst (pc := 168) (v := 0) dX4_addTo_168 (by decide) ?_
        refine x_lstore_n (pc := 169) (lv' := [(0, .ref c), (1, .ref lk), (2, .long 0), (4, .int (nI i)), (5, .int (I (c + 2) i)), (6, .int (I (c + 6) i)), (7, .int 1)]) dX4_addTo_169 rfl (by decide) rfl ?_
        refine x_goto (pc := 170) (tgt := 229) dX4_addTo_170 (by decide) ?_
        refine x_iinc (pc := 229) (v := nI (i + 1)) (lv' := [(0, .ref c), (1, .ref lk), (2, .long 0), (4, .int (nI (i + 1))), (5, .int (I (c + 2) i)), (6, .int (I (c + 6) i)), (7, .int 1)]) dX4_addTo_229 rfl (nI_1 _) (by decide) rfl ?_
        refine x_goto (pc := 232) (tgt := 5) dX4_addTo_232 (by decide) ?_
        refine X.keep [0, 1, 2, 4] rfl ?_
        exact ih (i + 1) (by omega) _ _ _ (by rw [show foldC (I lk) (I (c + 2)) (I (c + 4)) (I (c + 6)) (I lk 5) (I lk 6) (i + 1) = stC (I lk) (I (c + 2)) (I (c + 4)) (I (c + 6)) i (foldC (I lk) (I (c + 2)) (I (c + 4)) (I (c + 6)) (I lk 5) (I lk 6) i) from rfl, hf]; unfold stC; simp only [c44, n56_33, n56_38, n56_67, c56, if_true, if_false, ↓reduceIte, Int32.add_zero, Bool.false_eq_true]; try rfl)
      refine xsw_c (fun c56 => ?_) (fun n56_124 => ?_)
      · skip
        refine x_lload_n (pc := 137) dX4_addTo_137 rfl rfl ?_
        refine x_iconst (pc := 138) (v := 1) dX4_addTo_138 (by decide) ?_
        refine x_lushr (pc := 139) dX4_addTo_139 ?_
        refine x_lload_n (pc := 140) dX4_addTo_140 rfl rfl ?_
        refine x_lconst (pc := 141) (v := 1) dX4_addTo_141 (by decide) ?_
        refine x_land (pc := 142) dX4_addTo_142 ?_
        refine x_lor (pc := 143) dX4_addTo_143 ?_
        refine x_topl (fun v144 ev144 => ?_)
        refine x_lstore_n (pc := 144) (lv' := [(0, .ref c), (1, .ref lk), (2, .long v144), (4, .int (nI i)), (5, .int (I (c + 2) i)), (6, .int (I (c + 6) i)), (7, .int 1)]) dX4_addTo_144 rfl (by decide) rfl ?_
        refine x_goto (pc := 145) (tgt := 229) dX4_addTo_145 (by decide) ?_
        refine x_iinc (pc := 229) (v := nI (i + 1)) (lv' := [(0, .ref c), (1, .ref lk), (2, .long v144), (4, .int (nI (i + 1))), (5, .int (I (c + 2) i)), (6, .int (I (c + 6) i)), (7, .int 1)]) dX4_addTo_229 rfl (nI_1 _) (by decide) rfl ?_
        refine x_goto (pc := 232) (tgt := 5) dX4_addTo_232 (by decide) ?_
        refine X.keep [0, 1, 2, 4] rfl ?_
        exact ih (i + 1) (by omega) _ _ _ (by rw [show foldC (I lk) (I (c + 2)) (I (c + 4)) (I (c + 6)) (I lk 5) (I lk 6) (i + 1) = stC (I lk) (I (c + 2)) (I (c + 4)) (I (c + 6)) i (foldC (I lk) (I (c + 2)) (I (c + 4)) (I (c + 6)) (I lk 5) (I lk 6) i) from rfl, hf]; unfold stC; simp only [c44, n56_33, n56_38, n56_67, n56_89, c56, ev144, if_true, if_false, ↓reduceIte, Int32.add_zero, Bool.false_eq_true]; try rfl)
      refine xsw_n ?_
      refine x_lload_n (pc := 198) dX4_addTo_198 rfl rfl ?_
      refine x_iconst (pc := 199) (v := 1) dX4_addTo_199 (by decide) ?_
      refine x_lshl (pc := 200) dX4_addTo_200 ?_
      refine x_aload_n (pc := 201) dX4_addTo_201 rfl rfl ?_
      refine x_iload (pc := 202) dX4_addTo_202 rfl ?_
      refine x_aload_n (pc := 204) dX4_addTo_204 rfl rfl ?_
      refine x_getr (pc := 205) dX4_addTo_205 kf_RX4_20 r1 rfl r3 ?_
      refine x_iload (pc := 208) dX4_addTo_208 rfl ?_
      refine x_callV (pc := 210) (As := [.int _]) dX4_addTo_210 km_X5_at kv_X5_at kl_RX4_43 r6.1 rfl rfl (by decide) ⟨Nat.le_refl _, Nat.le_refl _⟩ rfl (Nat.le_of_ble_eq_true rfl) (Nat.le_of_ble_eq_true rfl) (c_at r6 (⟨rfl, rfl, ?_⟩))
      rw [q3, q4, hm2, rAt_in hi hml (by omega)]
      refine x_iload (pc := 213) dX4_addTo_213 rfl ?_
      refine x_callV (pc := 215) (As := [.int _, .int _, .int _]) dX4_addTo_215 km_X2_passes kv_X2_passes kl_RX4_57 hlk rfl rfl (by decide) ⟨Nat.le_refl _, Nat.le_refl _⟩ rfl (Nat.le_of_ble_eq_true rfl) (Nat.le_of_ble_eq_true rfl) (c_passes hlk (fun h => ⟨rfl, rfl, ?_⟩) (fun h => ⟨rfl, rfl, ?_⟩))
      · skip
        rw [xlk_sel] at h
        refine x_if_eq_f (pc := 218) (tgt := 225) dX4_addTo_218 (by decide) (by decide) ?_
        refine x_iconst (pc := 221) (v := 1) dX4_addTo_221 (by decide) ?_
        refine x_goto (pc := 222) (tgt := 226) dX4_addTo_222 (by decide) ?_
        refine x_i2l (pc := 226) dX4_addTo_226 ?_
        refine x_lor (pc := 227) dX4_addTo_227 ?_
        refine x_topl (fun v228 ev228 => ?_)
        refine x_lstore_n (pc := 228) (lv' := [(0, .ref c), (1, .ref lk), (2, .long v228), (4, .int (nI i)), (5, .int (I (c + 2) i)), (6, .int (I (c + 6) i)), (7, .int 1)]) dX4_addTo_228 rfl (by decide) rfl ?_
        refine x_iinc (pc := 229) (v := nI (i + 1)) (lv' := [(0, .ref c), (1, .ref lk), (2, .long v228), (4, .int (nI (i + 1))), (5, .int (I (c + 2) i)), (6, .int (I (c + 6) i)), (7, .int 1)]) dX4_addTo_229 rfl (nI_1 _) (by decide) rfl ?_
        refine x_goto (pc := 232) (tgt := 5) dX4_addTo_232 (by decide) ?_
        refine X.keep [0, 1, 2, 4] rfl ?_
        exact ih (i + 1) (by omega) _ _ _ (by rw [show foldC (I lk) (I (c + 2)) (I (c + 4)) (I (c + 6)) (I lk 5) (I lk 6) (i + 1) = stC (I lk) (I (c + 2)) (I (c + 4)) (I (c + 6)) i (foldC (I lk) (I (c + 2)) (I (c + 4)) (I (c + 6)) (I lk 5) (I lk 6) i) from rfl, hf]; unfold stC; simp only [c44, n56_33, n56_38, n56_67, n56_89, n56_124, h, ev228, if_true, if_false, ↓reduceIte, Int32.add_zero, Bool.false_eq_true]; try rfl)
      · skip
        rw [xlk_sel] at h
        refine x_if_eq_t (pc := 218) (tgt := 225) dX4_addTo_218 (by decide) (by decide) ?_
        refine x_iconst (pc := 225) (v := 0) dX4_addTo_225 (by decide) ?_
        refine x_i2l (pc := 226) dX4_addTo_226 ?_
        refine x_lor (pc := 227) dX4_addTo_227 ?_
        refine x_topl (fun v228 ev228 => ?_)
        refine x_lstore_n (pc := 228) (lv' := [(0, .ref c), (1, .ref lk), (2, .long v228), (4, .int (nI i)), (5, .int (I (c + 2) i)), (6, .int (I (c + 6) i)), (7, .int 1)]) dX4_addTo_228 rfl (by decide) rfl ?_
        refine x_iinc (pc := 229) (v := nI (i + 1)) (lv' := [(0, .ref c), (1, .ref lk), (2, .long v228), (4, .int (nI (i + 1))), (5, .int (I (c + 2) i)), (6, .int (I (c + 6) i)), (7, .int 1)]) dX4_addTo_229 rfl (nI_1 _) (by decide) rfl ?_
        refine x_goto (pc := 232) (tgt := 5) dX4_addTo_232 (by decide) ?_
        refine X.keep [0, 1, 2, 4] rfl ?_
        exact ih (i + 1) (by omega) _ _ _ (by rw [show foldC (I lk) (I (c + 2)) (I (c + 4)) (I (c + 6)) (I lk 5) (I lk 6) (i + 1) = stC (I lk) (I (c + 2)) (I (c + 4)) (I (c + 6)) i (foldC (I lk) (I (c + 2)) (I (c + 4)) (I (c + 6)) (I lk 5) (I lk 6) i) from rfl, hf]; unfold stC; simp only [c44, n56_33, n56_38, n56_67, n56_89, n56_124, h, ev228, if_true, if_false, ↓reduceIte, Int32.add_zero, Bool.false_eq_true]; try rfl)

set_option maxHeartbeats 4000000 in
set_option maxRecDepth 100000 in
theorem c_addTo {T : xT} {n : Nat} {sh : Nat → Nat × Nat} {I : xI} {R : xR} {L : xL} {P : xPost} {c lk m : Nat} (hr : xRing sh R c) (hlk : sh lk = (0, 2)) (hm1 : I (c + 1) 1 = nI m) (hm2 : I (c + 3) 1 = nI m) (hm3 : I (c + 5) 1 = nI m) (hml : m ≤ 100) (K : P (n, sh, 0, 0) (xlk I lk (foldC (I lk) (I (c + 2)) (I (c + 4)) (I (c + 6)) (I lk 5) (I lk 6) m).2.1 (foldC (I lk) (I (c + 2)) (I (c + 4)) (I (c + 6)) (I lk 5) (I lk 6) m).2.2) R L none) : XM T zX4_addTo 1 [.ref c, .ref lk] n sh I R L P := by
  refine x_lconst (pc := 0) (v := 0) dX4_addTo_0 (by decide) ?_
  refine x_lstore_n (pc := 1) (lv' := [(0, .ref c), (1, .ref lk), (2, .long 0)]) dX4_addTo_1 rfl (by decide) rfl ?_
  refine x_iconst (pc := 2) (v := 0) dX4_addTo_2 (by decide) ?_
  refine x_istore (pc := 3) (lv' := [(0, .ref c), (1, .ref lk), (2, .long 0), (4, .int 0)]) dX4_addTo_3 (by decide) rfl ?_
  refine X.heap (xlk_self (b := lk)).symm ?_
  exact l_addTo hr hlk hm1 hm2 hm3 hml K m 0 (by omega) 0 _ _ rfl

