/-! ===== ring: the class ===== -/
set_option maxHeartbeats 4000000 in
set_option maxRecDepth 100000 in
theorem c_rgCopy {T : xT} {n : Nat} {sh : Nat → Nat × Nat} {I : xI} {R : xR} {L : xL} {P : xPost} {c c2 : Nat} (hr : xRing sh R c) (hr2 : xRing sh R c2) (hcc : c + 7 ≤ c2) {l : List (Nat × Nat × Nat)} (h : DR I c l) (K : ∀ J : xI, DR J c2 l → J c2 3 = I c 3 → (∀ a, a < c2 ∨ c2 + 7 ≤ a → J a = I a) → P (n, sh, 0, 0) J R L none) : XM T zX4_copyFrom 2 [.ref c2, .ref c] n sh I R L P := by
  refine x_aload_n (pc := 0) dX4_copyFrom_0 rfl rfl ?_
  refine x_getr (pc := 1) dX4_copyFrom_1 kf_RX4_14 hr2.1 rfl hr2.2.1 ?_
  refine x_aload_n (pc := 4) dX4_copyFrom_4 rfl rfl ?_
  refine x_getr (pc := 5) dX4_copyFrom_5 kf_RX4_14 hr.1 rfl hr.2.1 ?_
  refine x_callV (pc := 8) (As := [.ref _]) dX4_copyFrom_8 km_X5_copyFrom kv_X5_copyFrom kl_RX4_36 hr2.2.2.2.2.1.1 rfl rfl (by decide) ⟨Nat.le_refl _, Nat.le_refl _⟩ rfl (Nat.le_of_ble_eq_true rfl) (Nat.le_of_ble_eq_true rfl) (c_copyFrom (m := l.length) hr2.2.2.2.2.1 hr.2.2.2.2.1 (by omega) (by omega) h.2.1 h.1 h.1 (⟨rfl, rfl, ?_⟩))
  refine x_aload_n (pc := 11) dX4_copyFrom_11 rfl rfl ?_
  refine x_getr (pc := 12) dX4_copyFrom_12 kf_RX4_20 hr2.1 rfl hr2.2.2.1 ?_
  refine x_aload_n (pc := 15) dX4_copyFrom_15 rfl rfl ?_
  refine x_getr (pc := 16) dX4_copyFrom_16 kf_RX4_20 hr.1 rfl hr.2.2.1 ?_
  refine x_callV (pc := 19) (As := [.ref _]) dX4_copyFrom_19 km_X5_copyFrom kv_X5_copyFrom kl_RX4_36 hr2.2.2.2.2.2.1.1 rfl rfl (by decide) ⟨Nat.le_refl _, Nat.le_refl _⟩ rfl (Nat.le_of_ble_eq_true rfl) (Nat.le_of_ble_eq_true rfl) (c_copyFrom (m := l.length) hr2.2.2.2.2.2.1 hr.2.2.2.2.2.1 (by omega) (by omega) ((congrFun (xcopy_o (by omega) (by omega)) 1).trans h.2.2.1) h.1 h.1 (⟨rfl, rfl, ?_⟩))
  refine x_aload_n (pc := 22) dX4_copyFrom_22 rfl rfl ?_
  refine x_getr (pc := 23) dX4_copyFrom_23 kf_RX4_23 hr2.1 rfl hr2.2.2.2.1 ?_
  refine x_aload_n (pc := 26) dX4_copyFrom_26 rfl rfl ?_
  refine x_getr (pc := 27) dX4_copyFrom_27 kf_RX4_23 hr.1 rfl hr.2.2.2.1 ?_
  refine x_callV (pc := 30) (As := [.ref _]) dX4_copyFrom_30 km_X5_copyFrom kv_X5_copyFrom kl_RX4_36 hr2.2.2.2.2.2.2.1 rfl rfl (by decide) ⟨Nat.le_refl _, Nat.le_refl _⟩ rfl (Nat.le_of_ble_eq_true rfl) (Nat.le_of_ble_eq_true rfl) (c_copyFrom (m := l.length) hr2.2.2.2.2.2.2 hr.2.2.2.2.2.2 (by omega) (by omega) ((congrFun ((xcopy_o (by omega) (by omega)).trans (xcopy_o (by omega) (by omega))) 1).trans h.2.2.2.1) h.1 h.1 (⟨rfl, rfl, ?_⟩))
  refine x_aload_n (pc := 33) dX4_copyFrom_33 rfl rfl ?_
  refine x_aload_n (pc := 34) dX4_copyFrom_34 rfl rfl ?_
  refine x_get (pc := 35) dX4_copyFrom_35 kf_RX4_26 hr.1 rfl ?_
  refine x_put (pc := 38) dX4_copyFrom_38 kf_RX4_26 hr2.1 rfl (Or.inl kb_4_3) ?_
  refine x_return (pc := 41) dX4_copyFrom_41 rfl ⟨Nat.le_refl _, Nat.le_refl _⟩ ?_
  obtain ⟨h1, h2, h3, h4, h5⟩ := h
  refine K _ ⟨h1, ?_, ?_, ?_, fun i x hi => ?_⟩ (up2_s.trans ?_) (fun a p => ((up2_row (by omega)).trans ((xcopy_o (by omega) (by omega)).trans ((xcopy_o (by omega) (by omega)).trans (xcopy_o (by omega) (by omega))))))
  · exact (congrFun ((up2_row (by omega)).trans ((xcopy_o (by omega) (by omega)).trans (xcopy_o (by omega) (by omega)))) 1).trans xcopy_1
  · exact (congrFun ((up2_row (by omega)).trans (xcopy_o (by omega) (by omega))) 1).trans xcopy_1
  · exact (congrFun (up2_row (by omega)) 1).trans xcopy_1
  · obtain ⟨g1, g2, g3⟩ := h5 i x hi
    have hlt := (List.getElem?_eq_some_iff.mp hi).1
    refine ⟨((congrFun ((up2_row (by omega)).trans ((xcopy_o (by omega) (by omega)).trans (xcopy_o (by omega) (by omega)))) i).trans (xcopy_i (by omega) hlt)).trans g1, ((congrFun ((up2_row (by omega)).trans (xcopy_o (by omega) (by omega))) i).trans (xcopy_i (by omega) hlt)).trans ?_, ((congrFun (up2_row (by omega)) i).trans (xcopy_i (by omega) hlt)).trans ?_⟩
    · exact (congrFun (xcopy_o (by omega) (by omega)) i).trans g2
    · exact (congrFun ((xcopy_o (by omega) (by omega)).trans (xcopy_o (by omega) (by omega))) i).trans g3
  · exact congrFun ((xcopy_o (by omega) (by omega)).trans ((xcopy_o (by omega) (by omega)).trans (xcopy_o (by omega) (by omega)))) 3

set_option maxHeartbeats 4000000 in
set_option maxRecDepth 100000 in
theorem c_ringIt {T : xT} {n : Nat} {sh : Nat → Nat × Nat} {I : xI} {R : xR} {L : xL} {P : xPost} {lr nw im tr rd hu se ac M : Nat} (hG : GEO sh R lr nw im tr rd hu se ac M) {t : xX} (hx : XOK t) (ht : bRow I (rd + 1) t.1 t.2) {rc : Nat} (hrc : I lr 6 = nI rc) (hrc6 : rc ≤ 6) (K6 : rc = 6 → P (n, sh, 0, 0) I R L (some (.int (-4)))) (K0 : ∀ (J : xI) (q : Nat), rc < 6 → RLN (nxX t) t.1 8 0 [] (q, none) → q ≤ 100 → J (rd + 1) 1 = 0 → (∀ a, (a < rd ∨ a = rd + 2 ∨ rd + 10 ≤ a) → J a = I a) → P (n, sh, 0, 0) J R L (some (.int (-10 - nI q)))) (K1 : ∀ (J : xI) (acc : List xCL), rc < 6 → RLN (nxX t) t.1 8 0 [] (t.1, some acc) → DR J (83 + 7 * rc) (flL acc) → J (83 + 7 * rc) 3 = nI (ldN acc) → J (rd + 1) 1 = 0 → J lr 6 = nI (rc + 1) → (∀ k, k ≠ 6 → J lr k = I lr k) → (∀ a, a ≠ lr → (a < rd ∨ a = rd + 2 ∨ rd + 10 ≤ a) → (a < 83 + 7 * rc ∨ 83 + 7 * rc + 7 ≤ a) → J a = I a) → P (n, sh, 0, 0) J (up2 R nw 11 (some (83 + 7 * rc))) L (some (.int (nI rc))))  : XM T zX9_ring 19 [.ref lr] n sh I R L P := by
  have e_rd := hG.g_e_rd
  have e_lr := hG.g_e_x
  have e_nw := hG.g_e_nw
  refine x_aload_n (pc := 0) dX9_ring_0 rfl rfl ?_
  refine x_get (pc := 1) dX9_ring_1 kf_RX9_41 hG.g_x rfl ?_
  rw [hrc]
  refine x_ifn_lt (pc := 4) (a := rc) dX9_ring_4 ⟨28, by decide⟩ (by omega) ?_
  refine x_aload_n (pc := 7) dX9_ring_7 rfl rfl ?_
  refine x_get (pc := 8) dX9_ring_8 kf_RX9_41 hG.g_x rfl ?_
  rw [hrc]
  refine x_bipush (pc := 11) (v := 6) dX9_ring_11 (by decide) ?_
  refine x_icmpn_ge (pc := 13) (tgt := 28) (a := rc) (b := 6) dX9_ring_13 (by decide) (by omega) (by decide) (fun c13 => ?_) (fun c13 => ?_)
  · skip
    refine x_bipush (pc := 28) (v := -4) dX9_ring_28 (by decide) ?_
    refine x_ireturn (pc := 30) dX9_ring_30 ⟨_, rfl, rfl⟩ ⟨Nat.le_refl _, Nat.le_refl _⟩ ?_
    exact K6 (by omega)
  · skip
    refine x_aload_n (pc := 16) dX9_ring_16 rfl rfl ?_
    refine x_get (pc := 17) dX9_ring_17 kf_RX9_41 hG.g_x rfl ?_
    rw [hrc]
    refine x_aload_n (pc := 20) dX9_ring_20 rfl rfl ?_
    refine x_getr (pc := 21) dX9_ring_21 kf_RX9_37 hG.g_x rfl hG.g_f5 ?_
    refine x_alen (pc := 24) (v := 6) dX9_ring_24 hG.g_ra ⟨by decide, by decide⟩ (by decide) ?_
    refine x_icmpn_lt_t (pc := 25) (tgt := 31) (a := rc) (b := 6) dX9_ring_25 (by decide) (by omega) (by decide) (by omega) ?_
    refine x_aload_n (pc := 31) dX9_ring_31 rfl rfl ?_
    refine x_getr (pc := 32) dX9_ring_32 kf_RX9_37 hG.g_x rfl hG.g_f5 ?_
    refine x_aload_n (pc := 35) dX9_ring_35 rfl rfl ?_
    refine x_get (pc := 36) dX9_ring_36 kf_RX9_41 hG.g_x rfl ?_
    rw [hrc]
    refine x_aaldn (pc := 39) (a := rc) dX9_ring_39 hG.g_ra (Or.inl rfl) (by omega) (by omega) (hG.g_ri rc (by omega)) ?_
    refine x_astore_n (pc := 40) (lv' := [(0, .ref lr), (1, .ref (83 + 7 * rc))]) dX9_ring_40 rfl (by decide) rfl ?_
    refine x_aload_n (pc := 41) dX9_ring_41 rfl rfl ?_
    refine x_ifnonnull (pc := 42) (tgt := 48) dX9_ring_42 (by decide) ?_
    refine x_aload_n (pc := 48) dX9_ring_48 rfl rfl ?_
    refine x_getr (pc := 49) dX9_ring_49 kf_RX9_31 hG.g_x rfl hG.g_f4 ?_
    refine x_callV (pc := 52) (As := []) dX9_ring_52 km_X3_faultOfText kv_X3_faultOfText kl_RX9_170 hG.g_rd rfl rfl (by decide) ⟨Nat.le_refl _, Nat.le_refl _⟩ rfl (Nat.le_of_ble_eq_true rfl) (Nat.le_of_ble_eq_true rfl) (c_faultOfText hG hx ht (fun J acc hR dJ eJ fJ => ⟨rfl, rfl, ?_⟩) (fun J q hR hq fJ => ⟨rfl, rfl, ?_⟩))
    · skip
      refine x_istore_n (pc := 55) (lv' := [(0, .ref lr), (1, .ref (83 + 7 * rc)), (2, .int (-1))]) dX9_ring_55 rfl (by decide) rfl ?_
      refine x_aload_n (pc := 56) dX9_ring_56 rfl rfl ?_
      refine x_getr (pc := 57) dX9_ring_57 kf_RX9_31 hG.g_x rfl hG.g_f4 ?_
      refine x_getr (pc := 60) dX9_ring_60 kf_RX9_162 hG.g_rd rfl hG.g_rd0 ?_
      refine x_callV (pc := 63) (As := []) dX9_ring_63 km_X5_clear kv_X5_clear kl_RX9_173 hG.g_text.1 rfl rfl (by decide) ⟨Nat.le_refl _, Nat.le_refl _⟩ rfl (Nat.le_of_ble_eq_true rfl) (Nat.le_of_ble_eq_true rfl) (c_clear hG.g_text (⟨rfl, rfl, ?_⟩))
      refine x_iload_n (pc := 66) dX9_ring_66 rfl rfl ?_
      refine x_iconst (pc := 67) (v := -1) dX9_ring_67 (by decide) ?_
      refine x_icmp_eq_t (pc := 68) (tgt := 76) dX9_ring_68 (by decide) (by decide) ?_
      refine x_aload_n (pc := 76) dX9_ring_76 rfl rfl ?_
      refine x_aload_n (pc := 77) dX9_ring_77 rfl rfl ?_
      refine x_getr (pc := 78) dX9_ring_78 kf_RX9_31 hG.g_x rfl hG.g_f4 ?_
      refine x_getr (pc := 81) dX9_ring_81 kf_RX9_176 hG.g_rd rfl hG.g_rd1 ?_
      refine x_callV (pc := 84) (As := [.ref _]) dX9_ring_84 km_X4_copyFrom kv_X4_copyFrom kl_RX9_180 (hG.g_rg rc (by omega)).1 rfl rfl (by decide) ⟨Nat.le_refl _, Nat.le_refl _⟩ rfl (Nat.le_of_ble_eq_true rfl) (Nat.le_of_ble_eq_true rfl) (c_rgCopy (c := rd + 3) (c2 := 83 + 7 * rc) hG.g_draft (hG.g_rg rc (by omega)) (by omega) (dJ.keep (fun a q1 q2 => up2_row (by omega))) (fun J2 d2 e2 f2 => ⟨rfl, rfl, ?_⟩))
      refine x_aload_n (pc := 87) dX9_ring_87 rfl rfl ?_
      refine x_getr (pc := 88) dX9_ring_88 kf_RX9_12 hG.g_x rfl hG.g_f0 ?_
      refine x_aload_n (pc := 91) dX9_ring_91 rfl rfl ?_
      refine x_putr (pc := 92) dX9_ring_92 kf_RX9_184 hG.g_nw.1 rfl ?_
      refine x_aload_n (pc := 95) dX9_ring_95 rfl rfl ?_
      refine x_dup (pc := 96) dX9_ring_96 rfl ?_
      refine x_get (pc := 97) dX9_ring_97 kf_RX9_41 hG.g_x rfl ?_
      rw [show J2 lr 6 = nI rc from (congrFun ((f2 lr (by omega)).trans ((up2_row (by omega)).trans (fJ lr (by omega)))) 6).trans hrc]
      refine x_iconst (pc := 100) (v := 1) dX9_ring_100 (by decide) ?_
      refine x_iaddn (pc := 101) (a := rc) (b := 1) dX9_ring_101 ?_
      refine x_put (pc := 102) dX9_ring_102 kf_RX9_41 hG.g_x rfl (Or.inl kb_9_6) ?_
      refine x_aload_n (pc := 105) dX9_ring_105 rfl rfl ?_
      refine x_get (pc := 106) dX9_ring_106 kf_RX9_41 hG.g_x rfl ?_
      rw [up2_s]
      refine x_iconst (pc := 109) (v := 1) dX9_ring_109 (by decide) ?_
      refine x_isub (pc := 110) dX9_ring_110 ?_
      refine x_ireturn (pc := 111) dX9_ring_111 ⟨_, rfl, rfl⟩ ⟨Nat.le_refl _, Nat.le_refl _⟩ ?_
      refine xvi (K1 _ acc (by omega) hR (d2.keep (fun a q1 q2 => up2_row (by omega))) ?_ ?_ up2_s (fun k hk => ?_) (fun a p0 p1 p2 => ?_)) ?_
      · exact (congrFun (up2_row (by omega)) 3).trans (e2.trans ((congrFun (up2_row (by omega)) 3).trans eJ))
      · exact (congrFun ((up2_row (by omega)).trans (f2 (rd + 1) (by omega))) 1).trans up2_s
      · exact (up2_k hk).trans (congrFun ((f2 lr (by omega)).trans ((up2_row (by omega)).trans (fJ lr (by omega)))) k)
      · exact (up2_row p0).trans ((f2 a p2).trans ((up2_row (by omega)).trans (fJ a (by omega))))
      · skip
        first
        | rfl
        | exact (show nI (rc + 1) - 1 = nI rc from pk_sub (a := rc + 1) (b := 1) (by omega)).symm
    · skip
      refine x_istore_n (pc := 55) (lv' := [(0, .ref lr), (1, .ref (83 + 7 * rc)), (2, .int (nI q))]) dX9_ring_55 rfl (by decide) rfl ?_
      refine x_aload_n (pc := 56) dX9_ring_56 rfl rfl ?_
      refine x_getr (pc := 57) dX9_ring_57 kf_RX9_31 hG.g_x rfl hG.g_f4 ?_
      refine x_getr (pc := 60) dX9_ring_60 kf_RX9_162 hG.g_rd rfl hG.g_rd0 ?_
      refine x_callV (pc := 63) (As := []) dX9_ring_63 km_X5_clear kv_X5_clear kl_RX9_173 hG.g_text.1 rfl rfl (by decide) ⟨Nat.le_refl _, Nat.le_refl _⟩ rfl (Nat.le_of_ble_eq_true rfl) (Nat.le_of_ble_eq_true rfl) (c_clear hG.g_text (⟨rfl, rfl, ?_⟩))
      refine x_iload_n (pc := 66) dX9_ring_66 rfl rfl ?_
      refine x_iconst (pc := 67) (v := -1) dX9_ring_67 (by decide) ?_
      refine x_icmp_eq_f (pc := 68) (tgt := 76) dX9_ring_68 (by decide) (nI_nem (by omega)) ?_
      refine x_bipush (pc := 71) (v := -10) dX9_ring_71 (by decide) ?_
      refine x_iload_n (pc := 73) dX9_ring_73 rfl rfl ?_
      refine x_isub (pc := 74) dX9_ring_74 ?_
      refine x_ireturn (pc := 75) dX9_ring_75 ⟨_, rfl, rfl⟩ ⟨Nat.le_refl _, Nat.le_refl _⟩ ?_
      exact K0 _ q (by omega) hR hq up2_s (fun a p => (up2_row (by omega)).trans (fJ a (by omega)))

