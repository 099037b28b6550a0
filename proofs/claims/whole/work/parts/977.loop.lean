/-! ===== the law's loop ===== -/
theorem lw_gt {l i : Nat} (hl : l ≤ 3072) (hi : i ≤ 3072) : nI l - 6 < nI i ↔ ¬ i + 6 ≤ l := by
  by_cases z : 6 ≤ l
  · have e : nI l - 6 = nI (l - 6) := pk_sub (a := l) (b := 6) z
    rw [e, Int32.lt_iff_toInt_lt, nI_toInt (by omega), nI_toInt (by omega)]
    omega
  · have h : ∀ a, a < 6 → nI a - 6 < 0 := by decide
    refine ⟨fun _ => by omega, fun _ => ?_⟩
    have h1 := h l (by omega)
    rw [Int32.lt_iff_toInt_lt] at h1 ⊢
    have h1 : (nI l - 6).toInt < 0 := h1
    rw [nI_toInt (by omega)]
    omega

set_option maxHeartbeats 4000000 in
set_option maxRecDepth 100000 in
theorem lw_loop {T : xT} {n CM SM ca sa : Nat} {sh : Nat → Nat × Nat} {P : xPost} (hc : ca ≤ CM ∧ sa ≤ SM) (hT : T.1 ≤ 3072) (hP : ∀ (I : xI) (R : xR) (L : xL), P (n, sh, ca, sa) I R L (some (.int 1))) : ∀ (w i : Nat), T.1 < i + w → i ≤ T.1 → ∀ (I : xI) (R : xR) (L : xL) (V : xV) (rc : Nat) (ars : Nat → xAR) (t : xX) (W : xW) (A : List Nat) (o : Option xV), CST sh I R L V rc ars t W A o → MST I L V rc ars t W A o → VLD V rc t W A o (10 * i) → X T zL_law 30 CM SM P 18 [(0, .ref 1000000), (1, .ref 0), (2, .ref 137), (3, .int (nI i))] [] (n, sh, ca, sa) I R L := by
  intro w
  induction w with
  | zero =>
    intro i hw hi
    exact absurd hw (by omega)
  | succ w ih =>
    intro i hw hi I R L V rc ars t W A o h m v
    by_cases hm : i + 6 ≤ T.1
    · have K : xGO T CM SM P n sh ca sa i (10 * i) := by
        intro I2 R2 L2 V2 rc2 ars2 t2 W2 A2 o2 h2 m2 v2
        refine x_iinc (pc := 1134) (v := nI (i + 6)) (lv' := [(0, .ref 1000000), (1, .ref 0), (2, .ref 137), (3, .int (nI (i + 6)))]) dL_law_1134 rfl (nI_add _ 6) (by decide) rfl ?_
        refine x_goto (pc := 1137) (tgt := 18) dL_law_1137 (by decide) ?_
        exact ih (i + 6) (by omega) (by omega) I2 R2 L2 V2 rc2 ars2 t2 W2 A2 o2 h2 m2 (by rw [show 10 * (i + 6) = 10 * i + 60 by omega]; exact v2)
      refine x_iload_n (pc := 18) dL_law_18 rfl rfl ?_
      refine x_aload_n (pc := 19) dL_law_19 rfl rfl ?_
      refine x_slen (pc := 20) dL_law_20 ?_
      refine x_bipush (pc := 21) (v := 6) dL_law_21 (by decide) ?_
      refine x_isub (pc := 23) dL_law_23 ?_
      refine x_icmp_gt_f (pc := 24) (tgt := 1140) dL_law_24 (by decide) (fun z => (lw_gt hT (by omega)).mp z hm) ?_
      refine x_aload_n (pc := 27) dL_law_27 rfl rfl ?_
      refine x_iload_n (pc := 28) dL_law_28 rfl rfl ?_
      refine x_sld (pc := 29) ?_ dL_law_29 ?_
      · exact vp_in_nI (by omega) (by omega)
      refine x_bipush (pc := 30) (v := 31) dL_law_30 (by decide) ?_
      refine x_iand (pc := 32) dL_law_32 ?_
      refine x_tsw (pc := 33) (dt := 1134) [(0, 172), (1, 225), (2, 258), (3, 301), (4, 360), (5, 383), (6, 416), (7, 429), (8, 452), (9, 466), (10, 489), (11, 512), (12, 535), (13, 568), (14, 591), (15, 604), (16, 627), (17, 650), (18, 684), (19, 707), (20, 730), (21, 773), (22, 786), (23, 799), (24, 842), (25, 865), (26, 898), (27, 921), (28, 964), (29, 1037), (30, 1071)] dL_law_33 (by decide +kernel) (by decide) ?_
      refine xsw_c (fun c33 => ?_) (fun n33_0 => ?_)
      · skip
        exact lc_beast hc hT hm h m v (by omega) K
      refine xsw_c (fun c33 => ?_) (fun n33_1 => ?_)
      · skip
        exact lc_of hc hT hm h m v (by omega) K
      refine xsw_c (fun c33 => ?_) (fun n33_2 => ?_)
      · skip
        exact lc_set hc hT hm h m v (by omega) K
      refine xsw_c (fun c33 => ?_) (fun n33_3 => ?_)
      · skip
        exact lc_enemies hc hT hm h m v (by omega) K
      refine xsw_c (fun c33 => ?_) (fun n33_4 => ?_)
      · skip
        exact lc_tamer hc hT hm h m v (by omega) K
      refine xsw_c (fun c33 => ?_) (fun n33_5 => ?_)
      · skip
        exact lc_feed hc hT hm h m v (by omega) K
      refine xsw_c (fun c33 => ?_) (fun n33_6 => ?_)
      · skip
        exact lc_ring hc hT hm h m v (by omega) K
      refine xsw_c (fun c33 => ?_) (fun n33_7 => ?_)
      · skip
        exact lc_go hc hT hm h m v (by omega) K
      refine xsw_c (fun c33 => ?_) (fun n33_8 => ?_)
      · skip
        exact lc_safe hc hT hm h m v (by omega) K
      refine xsw_c (fun c33 => ?_) (fun n33_9 => ?_)
      · skip
        exact lc_from hc hT hm h m v (by omega) K
      refine xsw_c (fun c33 => ?_) (fun n33_10 => ?_)
      · skip
        exact lc_walk hc hT hm h m v (by omega) K
      refine xsw_c (fun c33 => ?_) (fun n33_11 => ?_)
      · skip
        exact lc_gone hc hT hm h m v (by omega) K
      refine xsw_c (fun c33 => ?_) (fun n33_12 => ?_)
      · skip
        exact lc_shortest hc hT hm h m v (by omega) K
      refine xsw_c (fun c33 => ?_) (fun n33_13 => ?_)
      · skip
        exact lc_seats hc hT hm h m v (by omega) K
      refine xsw_c (fun c33 => ?_) (fun n33_14 => ?_)
      · skip
        exact lc_sit hc hT hm h m v (by omega) K
      refine xsw_c (fun c33 => ?_) (fun n33_15 => ?_)
      · skip
        exact lc_line hc hT hm h m v (by omega) K
      refine xsw_c (fun c33 => ?_) (fun n33_16 => ?_)
      · skip
        exact lc_thunder hc hT hm h m v (by omega) K
      refine xsw_c (fun c33 => ?_) (fun n33_17 => ?_)
      · skip
        exact lc_calm hc hT hm h m v (by omega) K
      refine xsw_c (fun c33 => ?_) (fun n33_18 => ?_)
      · skip
        exact lc_film hc hT hm h m v (by omega) K
      refine xsw_c (fun c33 => ?_) (fun n33_19 => ?_)
      · skip
        exact lc_kinds hc hT hm h m v (by omega) K
      refine xsw_c (fun c33 => ?_) (fun n33_20 => ?_)
      · skip
        exact lc_judge hc hT hm h m v (by omega) K
      refine xsw_c (fun c33 => ?_) (fun n33_21 => ?_)
      · skip
        exact lc_image hc hT hm h m v (by omega) K
      refine xsw_c (fun c33 => ?_) (fun n33_22 => ?_)
      · skip
        exact lc_undo hc hT hm h m v (by omega) K
      refine xsw_c (fun c33 => ?_) (fun n33_23 => ?_)
      · skip
        exact lc_act hc hT hm h m v (by omega) K
      refine xsw_c (fun c33 => ?_) (fun n33_24 => ?_)
      · skip
        exact lc_trace hc hT hm h m v (by omega) K
      refine xsw_c (fun c33 => ?_) (fun n33_25 => ?_)
      · skip
        exact lc_taken hc hT hm h m v (by omega) K
      refine xsw_c (fun c33 => ?_) (fun n33_26 => ?_)
      · skip
        exact lc_count hc hT hm h m v (by omega) K
      refine xsw_c (fun c33 => ?_) (fun n33_27 => ?_)
      · skip
        exact lc_tape hc hT hm h m v (by omega) K
      refine xsw_c (fun c33 => ?_) (fun n33_28 => ?_)
      · skip
        exact lc_item hc hT hm h m v (by omega) K
      refine xsw_c (fun c33 => ?_) (fun n33_29 => ?_)
      · skip
        exact lc_read hc hT hm h m v (by omega) K
      refine xsw_c (fun c33 => ?_) (fun n33_30 => ?_)
      · skip
        exact lc_shift hc hT hm h m v (by omega) K
      refine xsw_n ?_
      exact K I R L V rc ars t W A o h m v.up
    · skip
      refine x_iload_n (pc := 18) dL_law_18 rfl rfl ?_
      refine x_aload_n (pc := 19) dL_law_19 rfl rfl ?_
      refine x_slen (pc := 20) dL_law_20 ?_
      refine x_bipush (pc := 21) (v := 6) dL_law_21 (by decide) ?_
      refine x_isub (pc := 23) dL_law_23 ?_
      refine x_icmp_gt_t (pc := 24) (tgt := 1140) dL_law_24 (by decide) ((lw_gt hT (by omega)).mpr hm) ?_
      refine x_iconst (pc := 1140) (v := 1) dL_law_1140 (by decide) ?_
      refine x_ireturn (pc := 1141) dL_law_1141 ⟨_, rfl, by decide⟩ hc ?_
      exact hP _ _ _

