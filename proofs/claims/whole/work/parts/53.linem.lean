/-! ===== line: the reference ===== -/
set_option maxHeartbeats 4000000 in
set_option maxRecDepth 100000 in
theorem m_corner0 {T : xT} {n : Nat} {sh : Nat → Nat × Nat} {I : xI} {R : xR} {L : xL} {P : xPost} {M : Nat} (K : P (n, sh, 0, 0) I R L (some (.int 0)))  : XM T zX10_corner 0 [.ref M, .int 0] n sh I R L P := by
  refine x_iload_n (pc := 0) dX10_corner_0 rfl rfl ?_
  refine x_if_ne_f (pc := 1) (tgt := 8) dX10_corner_1 (by decide) (by decide) ?_
  refine x_iconst (pc := 4) (v := 0) dX10_corner_4 (by decide) ?_
  refine x_goto (pc := 5) (tgt := 29) dX10_corner_5 (by decide) ?_
  refine x_ireturn (pc := 29) dX10_corner_29 ⟨_, rfl, rfl⟩ ⟨Nat.le_refl _, Nat.le_refl _⟩ ?_
  exact K

set_option maxHeartbeats 4000000 in
set_option maxRecDepth 100000 in
theorem m_corner1 {T : xT} {n : Nat} {sh : Nat → Nat × Nat} {I : xI} {R : xR} {L : xL} {P : xPost} {M : Nat} (K : P (n, sh, 0, 0) I R L (some (.int 5)))  : XM T zX10_corner 0 [.ref M, .int 1] n sh I R L P := by
  refine x_iload_n (pc := 0) dX10_corner_0 rfl rfl ?_
  refine x_if_ne_t (pc := 1) (tgt := 8) dX10_corner_1 (by decide) (by decide) ?_
  refine x_iload_n (pc := 8) dX10_corner_8 rfl rfl ?_
  refine x_iconst (pc := 9) (v := 1) dX10_corner_9 (by decide) ?_
  refine x_icmp_ne_f (pc := 10) (tgt := 17) dX10_corner_10 (by decide) (by decide) ?_
  refine x_iconst (pc := 13) (v := 5) dX10_corner_13 (by decide) ?_
  refine x_goto (pc := 14) (tgt := 29) dX10_corner_14 (by decide) ?_
  refine x_ireturn (pc := 29) dX10_corner_29 ⟨_, rfl, rfl⟩ ⟨Nat.le_refl _, Nat.le_refl _⟩ ?_
  exact K

set_option maxHeartbeats 4000000 in
set_option maxRecDepth 100000 in
theorem m_corner2 {T : xT} {n : Nat} {sh : Nat → Nat × Nat} {I : xI} {R : xR} {L : xL} {P : xPost} {M : Nat} (K : P (n, sh, 0, 0) I R L (some (.int 30)))  : XM T zX10_corner 0 [.ref M, .int 2] n sh I R L P := by
  refine x_iload_n (pc := 0) dX10_corner_0 rfl rfl ?_
  refine x_if_ne_t (pc := 1) (tgt := 8) dX10_corner_1 (by decide) (by decide) ?_
  refine x_iload_n (pc := 8) dX10_corner_8 rfl rfl ?_
  refine x_iconst (pc := 9) (v := 1) dX10_corner_9 (by decide) ?_
  refine x_icmp_ne_t (pc := 10) (tgt := 17) dX10_corner_10 (by decide) (by decide) ?_
  refine x_iload_n (pc := 17) dX10_corner_17 rfl rfl ?_
  refine x_iconst (pc := 18) (v := 2) dX10_corner_18 (by decide) ?_
  refine x_icmp_ne_f (pc := 19) (tgt := 27) dX10_corner_19 (by decide) (by decide) ?_
  refine x_bipush (pc := 22) (v := 30) dX10_corner_22 (by decide) ?_
  refine x_goto (pc := 24) (tgt := 29) dX10_corner_24 (by decide) ?_
  refine x_ireturn (pc := 29) dX10_corner_29 ⟨_, rfl, rfl⟩ ⟨Nat.le_refl _, Nat.le_refl _⟩ ?_
  exact K

set_option maxHeartbeats 4000000 in
set_option maxRecDepth 100000 in
theorem m_corner3 {T : xT} {n : Nat} {sh : Nat → Nat × Nat} {I : xI} {R : xR} {L : xL} {P : xPost} {M : Nat} (K : P (n, sh, 0, 0) I R L (some (.int 35)))  : XM T zX10_corner 0 [.ref M, .int 3] n sh I R L P := by
  refine x_iload_n (pc := 0) dX10_corner_0 rfl rfl ?_
  refine x_if_ne_t (pc := 1) (tgt := 8) dX10_corner_1 (by decide) (by decide) ?_
  refine x_iload_n (pc := 8) dX10_corner_8 rfl rfl ?_
  refine x_iconst (pc := 9) (v := 1) dX10_corner_9 (by decide) ?_
  refine x_icmp_ne_t (pc := 10) (tgt := 17) dX10_corner_10 (by decide) (by decide) ?_
  refine x_iload_n (pc := 17) dX10_corner_17 rfl rfl ?_
  refine x_iconst (pc := 18) (v := 2) dX10_corner_18 (by decide) ?_
  refine x_icmp_ne_t (pc := 19) (tgt := 27) dX10_corner_19 (by decide) (by decide) ?_
  refine x_bipush (pc := 27) (v := 35) dX10_corner_27 (by decide) ?_
  refine x_ireturn (pc := 29) dX10_corner_29 ⟨_, rfl, rfl⟩ ⟨Nat.le_refl _, Nat.le_refl _⟩ ?_
  exact K

set_option maxHeartbeats 4000000 in
set_option maxRecDepth 100000 in
theorem lm_cor1 {T : xT} {n : Nat} {sh : Nat → Nat × Nat} {I : xI} {R : xR} {L : xL} {P : xPost} {M b c q : Nat} (hM : xModel sh R M) (hb : b < 6) (hc : c < 36) (hq : q < 36) (K : X T zX10_line 6 0 0 P 26 [(0, .ref M), (1, .int (nI b)), (2, .int (nI c)), (3, .int (nI (fth q 5 c))), (4, .int 2)] [] (n, sh, 0, 0) I R L)  :  X T zX10_line 6 0 0 P 26 [(0, .ref M), (1, .int (nI b)), (2, .int (nI c)), (3, .int (nI q)), (4, .int 1)] [] (n, sh, 0, 0) (I) R L := by
  refine x_iload (pc := 26) dX10_line_26 rfl ?_
  refine x_iconst (pc := 28) (v := 4) dX10_line_28 (by decide) ?_
  refine x_icmp_ge_f (pc := 29) (tgt := 69) dX10_line_29 (by decide) (by decide) ?_
  refine x_aload_n (pc := 32) dX10_line_32 rfl rfl ?_
  refine x_aload_n (pc := 33) dX10_line_33 rfl rfl ?_
  refine x_iload (pc := 34) dX10_line_34 rfl ?_
  refine x_callV (pc := 36) (As := [.int _]) dX10_line_36 km_X10_corner kv_X10_corner kl_RX10_368 hM.s rfl rfl (by decide) ⟨Nat.le_refl _, Nat.le_refl _⟩ rfl (Nat.le_of_ble_eq_true rfl) (Nat.le_of_ble_eq_true rfl) (m_corner1 (⟨rfl, rfl, ?_⟩))
  refine x_iload_n (pc := 39) dX10_line_39 rfl rfl ?_
  refine x_callV (pc := 40) (As := [.int _, .int _]) dX10_line_40 km_X10_far kv_X10_far kl_RX10_301 hM.s rfl rfl (by decide) ⟨Nat.le_refl _, Nat.le_refl _⟩ rfl (Nat.le_of_ble_eq_true rfl) (Nat.le_of_ble_eq_true rfl) (m_far hM.s (show 5 < 36 by decide) hc (⟨rfl, rfl, ?_⟩))
  have := far_lt (show 5 < 36 by decide) hc
  refine x_aload_n (pc := 43) dX10_line_43 rfl rfl ?_
  refine x_iload_n (pc := 44) dX10_line_44 rfl rfl ?_
  refine x_iload_n (pc := 45) dX10_line_45 rfl rfl ?_
  refine x_callV (pc := 46) (As := [.int _, .int _]) dX10_line_46 km_X10_far kv_X10_far kl_RX10_301 hM.s rfl rfl (by decide) ⟨Nat.le_refl _, Nat.le_refl _⟩ rfl (Nat.le_of_ble_eq_true rfl) (Nat.le_of_ble_eq_true rfl) (m_far hM.s hq hc (⟨rfl, rfl, ?_⟩))
  have := far_lt hq hc
  refine x_icmpn_le (pc := 49) (tgt := 61) (a := (far 5 c)) (b := (far q c)) dX10_line_49 (by decide) (by omega) (by omega) (fun c49 => ?_) (fun c49 => ?_)
  · skip
    refine x_iload_n (pc := 61) dX10_line_61 rfl rfl ?_
    refine x_istore_n (pc := 62) (lv' := [(0, .ref M), (1, .int (nI b)), (2, .int (nI c)), (3, .int (nI q)), (4, .int 1)]) dX10_line_62 rfl (by decide) rfl ?_
    refine x_iinc (pc := 63) (v := 2) (lv' := [(0, .ref M), (1, .int (nI b)), (2, .int (nI c)), (3, .int (nI q)), (4, .int 2)]) dX10_line_63 rfl (by decide) (by decide) rfl ?_
    refine x_goto (pc := 66) (tgt := 26) dX10_line_66 (by decide) ?_
    rw [show fth q 5 c = q from if_neg (by omega)] at K
    exact X.keep [0, 1, 2, 3, 4] rfl K
  · skip
    refine x_aload_n (pc := 52) dX10_line_52 rfl rfl ?_
    refine x_iload (pc := 53) dX10_line_53 rfl ?_
    refine x_callV (pc := 55) (As := [.int _]) dX10_line_55 km_X10_corner kv_X10_corner kl_RX10_368 hM.s rfl rfl (by decide) ⟨Nat.le_refl _, Nat.le_refl _⟩ rfl (Nat.le_of_ble_eq_true rfl) (Nat.le_of_ble_eq_true rfl) (m_corner1 (⟨rfl, rfl, ?_⟩))
    refine x_goto (pc := 58) (tgt := 62) dX10_line_58 (by decide) ?_
    refine x_istore_n (pc := 62) (lv' := [(0, .ref M), (1, .int (nI b)), (2, .int (nI c)), (3, .int 5), (4, .int 1)]) dX10_line_62 rfl (by decide) rfl ?_
    refine x_iinc (pc := 63) (v := 2) (lv' := [(0, .ref M), (1, .int (nI b)), (2, .int (nI c)), (3, .int 5), (4, .int 2)]) dX10_line_63 rfl (by decide) (by decide) rfl ?_
    refine x_goto (pc := 66) (tgt := 26) dX10_line_66 (by decide) ?_
    rw [show fth q 5 c = 5 from if_pos (by omega)] at K
    exact X.keep [0, 1, 2, 3, 4] rfl K

set_option maxHeartbeats 4000000 in
set_option maxRecDepth 100000 in
theorem lm_cor2 {T : xT} {n : Nat} {sh : Nat → Nat × Nat} {I : xI} {R : xR} {L : xL} {P : xPost} {M b c q : Nat} (hM : xModel sh R M) (hb : b < 6) (hc : c < 36) (hq : q < 36) (K : X T zX10_line 6 0 0 P 26 [(0, .ref M), (1, .int (nI b)), (2, .int (nI c)), (3, .int (nI (fth q 30 c))), (4, .int 3)] [] (n, sh, 0, 0) I R L)  :  X T zX10_line 6 0 0 P 26 [(0, .ref M), (1, .int (nI b)), (2, .int (nI c)), (3, .int (nI q)), (4, .int 2)] [] (n, sh, 0, 0) (I) R L := by
  refine x_iload (pc := 26) dX10_line_26 rfl ?_
  refine x_iconst (pc := 28) (v := 4) dX10_line_28 (by decide) ?_
  refine x_icmp_ge_f (pc := 29) (tgt := 69) dX10_line_29 (by decide) (by decide) ?_
  refine x_aload_n (pc := 32) dX10_line_32 rfl rfl ?_
  refine x_aload_n (pc := 33) dX10_line_33 rfl rfl ?_
  refine x_iload (pc := 34) dX10_line_34 rfl ?_
  refine x_callV (pc := 36) (As := [.int _]) dX10_line_36 km_X10_corner kv_X10_corner kl_RX10_368 hM.s rfl rfl (by decide) ⟨Nat.le_refl _, Nat.le_refl _⟩ rfl (Nat.le_of_ble_eq_true rfl) (Nat.le_of_ble_eq_true rfl) (m_corner2 (⟨rfl, rfl, ?_⟩))
  refine x_iload_n (pc := 39) dX10_line_39 rfl rfl ?_
  refine x_callV (pc := 40) (As := [.int _, .int _]) dX10_line_40 km_X10_far kv_X10_far kl_RX10_301 hM.s rfl rfl (by decide) ⟨Nat.le_refl _, Nat.le_refl _⟩ rfl (Nat.le_of_ble_eq_true rfl) (Nat.le_of_ble_eq_true rfl) (m_far hM.s (show 30 < 36 by decide) hc (⟨rfl, rfl, ?_⟩))
  have := far_lt (show 30 < 36 by decide) hc
  refine x_aload_n (pc := 43) dX10_line_43 rfl rfl ?_
  refine x_iload_n (pc := 44) dX10_line_44 rfl rfl ?_
  refine x_iload_n (pc := 45) dX10_line_45 rfl rfl ?_
  refine x_callV (pc := 46) (As := [.int _, .int _]) dX10_line_46 km_X10_far kv_X10_far kl_RX10_301 hM.s rfl rfl (by decide) ⟨Nat.le_refl _, Nat.le_refl _⟩ rfl (Nat.le_of_ble_eq_true rfl) (Nat.le_of_ble_eq_true rfl) (m_far hM.s hq hc (⟨rfl, rfl, ?_⟩))
  have := far_lt hq hc
  refine x_icmpn_le (pc := 49) (tgt := 61) (a := (far 30 c)) (b := (far q c)) dX10_line_49 (by decide) (by omega) (by omega) (fun c49 => ?_) (fun c49 => ?_)
  · skip
    refine x_iload_n (pc := 61) dX10_line_61 rfl rfl ?_
    refine x_istore_n (pc := 62) (lv' := [(0, .ref M), (1, .int (nI b)), (2, .int (nI c)), (3, .int (nI q)), (4, .int 2)]) dX10_line_62 rfl (by decide) rfl ?_
    refine x_iinc (pc := 63) (v := 3) (lv' := [(0, .ref M), (1, .int (nI b)), (2, .int (nI c)), (3, .int (nI q)), (4, .int 3)]) dX10_line_63 rfl (by decide) (by decide) rfl ?_
    refine x_goto (pc := 66) (tgt := 26) dX10_line_66 (by decide) ?_
    rw [show fth q 30 c = q from if_neg (by omega)] at K
    exact X.keep [0, 1, 2, 3, 4] rfl K
  · skip
    refine x_aload_n (pc := 52) dX10_line_52 rfl rfl ?_
    refine x_iload (pc := 53) dX10_line_53 rfl ?_
    refine x_callV (pc := 55) (As := [.int _]) dX10_line_55 km_X10_corner kv_X10_corner kl_RX10_368 hM.s rfl rfl (by decide) ⟨Nat.le_refl _, Nat.le_refl _⟩ rfl (Nat.le_of_ble_eq_true rfl) (Nat.le_of_ble_eq_true rfl) (m_corner2 (⟨rfl, rfl, ?_⟩))
    refine x_goto (pc := 58) (tgt := 62) dX10_line_58 (by decide) ?_
    refine x_istore_n (pc := 62) (lv' := [(0, .ref M), (1, .int (nI b)), (2, .int (nI c)), (3, .int 30), (4, .int 2)]) dX10_line_62 rfl (by decide) rfl ?_
    refine x_iinc (pc := 63) (v := 3) (lv' := [(0, .ref M), (1, .int (nI b)), (2, .int (nI c)), (3, .int 30), (4, .int 3)]) dX10_line_63 rfl (by decide) (by decide) rfl ?_
    refine x_goto (pc := 66) (tgt := 26) dX10_line_66 (by decide) ?_
    rw [show fth q 30 c = 30 from if_pos (by omega)] at K
    exact X.keep [0, 1, 2, 3, 4] rfl K

set_option maxHeartbeats 4000000 in
set_option maxRecDepth 100000 in
theorem lm_cor3 {T : xT} {n : Nat} {sh : Nat → Nat × Nat} {I : xI} {R : xR} {L : xL} {P : xPost} {M b c q : Nat} (hM : xModel sh R M) (hb : b < 6) (hc : c < 36) (hq : q < 36) (K : X T zX10_line 6 0 0 P 26 [(0, .ref M), (1, .int (nI b)), (2, .int (nI c)), (3, .int (nI (fth q 35 c))), (4, .int 4)] [] (n, sh, 0, 0) I R L)  :  X T zX10_line 6 0 0 P 26 [(0, .ref M), (1, .int (nI b)), (2, .int (nI c)), (3, .int (nI q)), (4, .int 3)] [] (n, sh, 0, 0) (I) R L := by
  refine x_iload (pc := 26) dX10_line_26 rfl ?_
  refine x_iconst (pc := 28) (v := 4) dX10_line_28 (by decide) ?_
  refine x_icmp_ge_f (pc := 29) (tgt := 69) dX10_line_29 (by decide) (by decide) ?_
  refine x_aload_n (pc := 32) dX10_line_32 rfl rfl ?_
  refine x_aload_n (pc := 33) dX10_line_33 rfl rfl ?_
  refine x_iload (pc := 34) dX10_line_34 rfl ?_
  refine x_callV (pc := 36) (As := [.int _]) dX10_line_36 km_X10_corner kv_X10_corner kl_RX10_368 hM.s rfl rfl (by decide) ⟨Nat.le_refl _, Nat.le_refl _⟩ rfl (Nat.le_of_ble_eq_true rfl) (Nat.le_of_ble_eq_true rfl) (m_corner3 (⟨rfl, rfl, ?_⟩))
  refine x_iload_n (pc := 39) dX10_line_39 rfl rfl ?_
  refine x_callV (pc := 40) (As := [.int _, .int _]) dX10_line_40 km_X10_far kv_X10_far kl_RX10_301 hM.s rfl rfl (by decide) ⟨Nat.le_refl _, Nat.le_refl _⟩ rfl (Nat.le_of_ble_eq_true rfl) (Nat.le_of_ble_eq_true rfl) (m_far hM.s (show 35 < 36 by decide) hc (⟨rfl, rfl, ?_⟩))
  have := far_lt (show 35 < 36 by decide) hc
  refine x_aload_n (pc := 43) dX10_line_43 rfl rfl ?_
  refine x_iload_n (pc := 44) dX10_line_44 rfl rfl ?_
  refine x_iload_n (pc := 45) dX10_line_45 rfl rfl ?_
  refine x_callV (pc := 46) (As := [.int _, .int _]) dX10_line_46 km_X10_far kv_X10_far kl_RX10_301 hM.s rfl rfl (by decide) ⟨Nat.le_refl _, Nat.le_refl _⟩ rfl (Nat.le_of_ble_eq_true rfl) (Nat.le_of_ble_eq_true rfl) (m_far hM.s hq hc (⟨rfl, rfl, ?_⟩))
  have := far_lt hq hc
  refine x_icmpn_le (pc := 49) (tgt := 61) (a := (far 35 c)) (b := (far q c)) dX10_line_49 (by decide) (by omega) (by omega) (fun c49 => ?_) (fun c49 => ?_)
  · skip
    refine x_iload_n (pc := 61) dX10_line_61 rfl rfl ?_
    refine x_istore_n (pc := 62) (lv' := [(0, .ref M), (1, .int (nI b)), (2, .int (nI c)), (3, .int (nI q)), (4, .int 3)]) dX10_line_62 rfl (by decide) rfl ?_
    refine x_iinc (pc := 63) (v := 4) (lv' := [(0, .ref M), (1, .int (nI b)), (2, .int (nI c)), (3, .int (nI q)), (4, .int 4)]) dX10_line_63 rfl (by decide) (by decide) rfl ?_
    refine x_goto (pc := 66) (tgt := 26) dX10_line_66 (by decide) ?_
    rw [show fth q 35 c = q from if_neg (by omega)] at K
    exact X.keep [0, 1, 2, 3, 4] rfl K
  · skip
    refine x_aload_n (pc := 52) dX10_line_52 rfl rfl ?_
    refine x_iload (pc := 53) dX10_line_53 rfl ?_
    refine x_callV (pc := 55) (As := [.int _]) dX10_line_55 km_X10_corner kv_X10_corner kl_RX10_368 hM.s rfl rfl (by decide) ⟨Nat.le_refl _, Nat.le_refl _⟩ rfl (Nat.le_of_ble_eq_true rfl) (Nat.le_of_ble_eq_true rfl) (m_corner3 (⟨rfl, rfl, ?_⟩))
    refine x_goto (pc := 58) (tgt := 62) dX10_line_58 (by decide) ?_
    refine x_istore_n (pc := 62) (lv' := [(0, .ref M), (1, .int (nI b)), (2, .int (nI c)), (3, .int 35), (4, .int 3)]) dX10_line_62 rfl (by decide) rfl ?_
    refine x_iinc (pc := 63) (v := 4) (lv' := [(0, .ref M), (1, .int (nI b)), (2, .int (nI c)), (3, .int 35), (4, .int 4)]) dX10_line_63 rfl (by decide) (by decide) rfl ?_
    refine x_goto (pc := 66) (tgt := 26) dX10_line_66 (by decide) ?_
    rw [show fth q 35 c = 35 from if_pos (by omega)] at K
    exact X.keep [0, 1, 2, 3, 4] rfl K

set_option maxHeartbeats 4000000 in
set_option maxRecDepth 100000 in
theorem lm_corE {T : xT} {n : Nat} {sh : Nat → Nat × Nat} {I : xI} {R : xR} {L : xL} {P : xPost} {M b c q : Nat} (hM : xModel sh R M) (hb : b < 6) (hc : c < 36) (hq : q < 36) (K : X T zX10_line 6 0 0 P 69 [(0, .ref M), (1, .int (nI b)), (2, .int (nI c)), (3, .int (nI q))] [] (n, sh, 0, 0) I R L)  :  X T zX10_line 6 0 0 P 26 [(0, .ref M), (1, .int (nI b)), (2, .int (nI c)), (3, .int (nI q)), (4, .int 4)] [] (n, sh, 0, 0) (I) R L := by
  refine x_iload (pc := 26) dX10_line_26 rfl ?_
  refine x_iconst (pc := 28) (v := 4) dX10_line_28 (by decide) ?_
  refine x_icmp_ge_t (pc := 29) (tgt := 69) dX10_line_29 (by decide) (by decide) ?_
  exact X.keep [0, 1, 2, 3] rfl K

set_option maxHeartbeats 4000000 in
set_option maxRecDepth 100000 in
theorem lm_st3 {T : xT} {n : Nat} {sh : Nat → Nat × Nat} {I : xI} {R : xR} {L : xL} {P : xPost} {M b c t : Nat} (hM : xModel sh R M) (hb : b < 6) (hc : c < 36) (ht : t < 36) {u : Option Nat} (K : X T zX10_line 6 0 0 P 100 [(0, .ref M), (1, .int (nI b)), (2, .int (nI c)), (3, .int (nI t)), (4, .int (xo (stB t c 3 u))), (5, .int 2)] [] (n, sh, 0, 0) I R L)  :  X T zX10_line 6 0 0 P 100 [(0, .ref M), (1, .int (nI b)), (2, .int (nI c)), (3, .int (nI t)), (4, .int (xo u)), (5, .int 3)] [] (n, sh, 0, 0) (I) R L := by
  refine x_iload (pc := 100) dX10_line_100 rfl ?_
  refine x_if_lt_f (pc := 102) (tgt := 150) dX10_line_102 (by decide) (by decide) ?_
  refine x_aload_n (pc := 105) dX10_line_105 rfl rfl ?_
  refine x_iload_n (pc := 106) dX10_line_106 rfl rfl ?_
  refine x_iload (pc := 107) dX10_line_107 rfl ?_
  refine x_callV (pc := 109) (As := [.int _, .int _]) dX10_line_109 km_X10_beside kv_X10_beside kl_RX10_304 hM.s rfl rfl (by decide) ⟨Nat.le_refl _, Nat.le_refl _⟩ rfl (Nat.le_of_ble_eq_true rfl) (Nat.le_of_ble_eq_true rfl) (m_beside (s := 3) ht (by decide) (fun z hz9 => ⟨rfl, rfl, ?_⟩) (fun hz9 => ⟨rfl, rfl, ?_⟩))
  · skip
    have hz36 := nxt_lt8 ht hz9
    refine x_istore (pc := 112) (lv' := [(0, .ref M), (1, .int (nI b)), (2, .int (nI c)), (3, .int (nI t)), (4, .int (xo u)), (5, .int 3), (6, .int (nI z))]) dX10_line_112 (by decide) rfl ?_
    refine x_iload (pc := 114) dX10_line_114 rfl ?_
    refine x_ifn_lt (pc := 116) (a := z) dX10_line_116 ⟨140, by decide⟩ (by omega) ?_
    refine x_aload_n (pc := 119) dX10_line_119 rfl rfl ?_
    refine x_iload (pc := 120) dX10_line_120 rfl ?_
    refine x_iload_n (pc := 122) dX10_line_122 rfl rfl ?_
    refine x_callV (pc := 123) (As := [.int _, .int _]) dX10_line_123 km_X10_round kv_X10_round kl_RX10_328 hM.s rfl rfl (by decide) ⟨Nat.le_refl _, Nat.le_refl _⟩ rfl (Nat.le_of_ble_eq_true rfl) (Nat.le_of_ble_eq_true rfl) (m_round hM.s hz36 hc (⟨rfl, rfl, ?_⟩))
    have := rnd_lt hz36 hc
    refine x_aload_n (pc := 126) dX10_line_126 rfl rfl ?_
    refine x_iload_n (pc := 127) dX10_line_127 rfl rfl ?_
    refine x_iload_n (pc := 128) dX10_line_128 rfl rfl ?_
    refine x_callV (pc := 129) (As := [.int _, .int _]) dX10_line_129 km_X10_round kv_X10_round kl_RX10_328 hM.s rfl rfl (by decide) ⟨Nat.le_refl _, Nat.le_refl _⟩ rfl (Nat.le_of_ble_eq_true rfl) (Nat.le_of_ble_eq_true rfl) (m_round hM.s ht hc (⟨rfl, rfl, ?_⟩))
    have := rnd_lt ht hc
    refine x_icmpn_ge (pc := 132) (tgt := 140) (a := (rnd z c)) (b := (rnd t c)) dX10_line_132 (by decide) (by omega) (by omega) (fun c132 => ?_) (fun c132 => ?_)
    · skip
      refine x_iload (pc := 140) dX10_line_140 rfl ?_
      refine x_istore (pc := 142) (lv' := [(0, .ref M), (1, .int (nI b)), (2, .int (nI c)), (3, .int (nI t)), (4, .int (xo u)), (5, .int 3), (6, .int (nI z))]) dX10_line_142 (by decide) rfl ?_
      refine x_iinc (pc := 144) (v := 2) (lv' := [(0, .ref M), (1, .int (nI b)), (2, .int (nI c)), (3, .int (nI t)), (4, .int (xo u)), (5, .int 2), (6, .int (nI z))]) dX10_line_144 rfl (by decide) (by decide) rfl ?_
      refine x_goto (pc := 147) (tgt := 100) dX10_line_147 (by decide) ?_
      first
      | (rw [stB_s (stA_s hz9 (show rnd z c < rnd t c by omega))] at K; exact X.keep [0, 1, 2, 3, 4, 5] rfl K)
      | (rw [stB_n (stA_f hz9 (show ¬ rnd z c < rnd t c by omega))] at K; exact X.keep [0, 1, 2, 3, 4, 5] rfl K)
      | (rw [stB_n (stA_n hz9)] at K; exact X.keep [0, 1, 2, 3, 4, 5] rfl K)
    · skip
      refine x_iload (pc := 135) dX10_line_135 rfl ?_
      refine x_goto (pc := 137) (tgt := 142) dX10_line_137 (by decide) ?_
      refine x_istore (pc := 142) (lv' := [(0, .ref M), (1, .int (nI b)), (2, .int (nI c)), (3, .int (nI t)), (4, .int (nI z)), (5, .int 3), (6, .int (nI z))]) dX10_line_142 (by decide) rfl ?_
      refine x_iinc (pc := 144) (v := 2) (lv' := [(0, .ref M), (1, .int (nI b)), (2, .int (nI c)), (3, .int (nI t)), (4, .int (nI z)), (5, .int 2), (6, .int (nI z))]) dX10_line_144 rfl (by decide) (by decide) rfl ?_
      refine x_goto (pc := 147) (tgt := 100) dX10_line_147 (by decide) ?_
      first
      | (rw [stB_s (stA_s hz9 (show rnd z c < rnd t c by omega))] at K; exact X.keep [0, 1, 2, 3, 4, 5] rfl K)
      | (rw [stB_n (stA_f hz9 (show ¬ rnd z c < rnd t c by omega))] at K; exact X.keep [0, 1, 2, 3, 4, 5] rfl K)
      | (rw [stB_n (stA_n hz9)] at K; exact X.keep [0, 1, 2, 3, 4, 5] rfl K)
  · skip
    refine x_istore (pc := 112) (lv' := [(0, .ref M), (1, .int (nI b)), (2, .int (nI c)), (3, .int (nI t)), (4, .int (xo u)), (5, .int 3), (6, .int (-1))]) dX10_line_112 (by decide) rfl ?_
    refine x_iload (pc := 114) dX10_line_114 rfl ?_
    refine x_if_lt_t (pc := 116) (tgt := 140) dX10_line_116 (by decide) (by decide) ?_
    refine x_iload (pc := 140) dX10_line_140 rfl ?_
    refine x_istore (pc := 142) (lv' := [(0, .ref M), (1, .int (nI b)), (2, .int (nI c)), (3, .int (nI t)), (4, .int (xo u)), (5, .int 3), (6, .int (-1))]) dX10_line_142 (by decide) rfl ?_
    refine x_iinc (pc := 144) (v := 2) (lv' := [(0, .ref M), (1, .int (nI b)), (2, .int (nI c)), (3, .int (nI t)), (4, .int (xo u)), (5, .int 2), (6, .int (-1))]) dX10_line_144 rfl (by decide) (by decide) rfl ?_
    refine x_goto (pc := 147) (tgt := 100) dX10_line_147 (by decide) ?_
    first
    | (rw [stB_s (stA_s hz9 (show rnd z c < rnd t c by omega))] at K; exact X.keep [0, 1, 2, 3, 4, 5] rfl K)
    | (rw [stB_n (stA_f hz9 (show ¬ rnd z c < rnd t c by omega))] at K; exact X.keep [0, 1, 2, 3, 4, 5] rfl K)
    | (rw [stB_n (stA_n hz9)] at K; exact X.keep [0, 1, 2, 3, 4, 5] rfl K)

set_option maxHeartbeats 4000000 in
set_option maxRecDepth 100000 in
theorem lm_st2 {T : xT} {n : Nat} {sh : Nat → Nat × Nat} {I : xI} {R : xR} {L : xL} {P : xPost} {M b c t : Nat} (hM : xModel sh R M) (hb : b < 6) (hc : c < 36) (ht : t < 36) {u : Option Nat} (K : X T zX10_line 6 0 0 P 100 [(0, .ref M), (1, .int (nI b)), (2, .int (nI c)), (3, .int (nI t)), (4, .int (xo (stB t c 2 u))), (5, .int 1)] [] (n, sh, 0, 0) I R L)  :  X T zX10_line 6 0 0 P 100 [(0, .ref M), (1, .int (nI b)), (2, .int (nI c)), (3, .int (nI t)), (4, .int (xo u)), (5, .int 2)] [] (n, sh, 0, 0) (I) R L := by
  refine x_iload (pc := 100) dX10_line_100 rfl ?_
  refine x_if_lt_f (pc := 102) (tgt := 150) dX10_line_102 (by decide) (by decide) ?_
  refine x_aload_n (pc := 105) dX10_line_105 rfl rfl ?_
  refine x_iload_n (pc := 106) dX10_line_106 rfl rfl ?_
  refine x_iload (pc := 107) dX10_line_107 rfl ?_
  refine x_callV (pc := 109) (As := [.int _, .int _]) dX10_line_109 km_X10_beside kv_X10_beside kl_RX10_304 hM.s rfl rfl (by decide) ⟨Nat.le_refl _, Nat.le_refl _⟩ rfl (Nat.le_of_ble_eq_true rfl) (Nat.le_of_ble_eq_true rfl) (m_beside (s := 2) ht (by decide) (fun z hz9 => ⟨rfl, rfl, ?_⟩) (fun hz9 => ⟨rfl, rfl, ?_⟩))
  · skip
    have hz36 := nxt_lt8 ht hz9
    refine x_istore (pc := 112) (lv' := [(0, .ref M), (1, .int (nI b)), (2, .int (nI c)), (3, .int (nI t)), (4, .int (xo u)), (5, .int 2), (6, .int (nI z))]) dX10_line_112 (by decide) rfl ?_
    refine x_iload (pc := 114) dX10_line_114 rfl ?_
    refine x_ifn_lt (pc := 116) (a := z) dX10_line_116 ⟨140, by decide⟩ (by omega) ?_
    refine x_aload_n (pc := 119) dX10_line_119 rfl rfl ?_
    refine x_iload (pc := 120) dX10_line_120 rfl ?_
    refine x_iload_n (pc := 122) dX10_line_122 rfl rfl ?_
    refine x_callV (pc := 123) (As := [.int _, .int _]) dX10_line_123 km_X10_round kv_X10_round kl_RX10_328 hM.s rfl rfl (by decide) ⟨Nat.le_refl _, Nat.le_refl _⟩ rfl (Nat.le_of_ble_eq_true rfl) (Nat.le_of_ble_eq_true rfl) (m_round hM.s hz36 hc (⟨rfl, rfl, ?_⟩))
    have := rnd_lt hz36 hc
    refine x_aload_n (pc := 126) dX10_line_126 rfl rfl ?_
    refine x_iload_n (pc := 127) dX10_line_127 rfl rfl ?_
    refine x_iload_n (pc := 128) dX10_line_128 rfl rfl ?_
    refine x_callV (pc := 129) (As := [.int _, .int _]) dX10_line_129 km_X10_round kv_X10_round kl_RX10_328 hM.s rfl rfl (by decide) ⟨Nat.le_refl _, Nat.le_refl _⟩ rfl (Nat.le_of_ble_eq_true rfl) (Nat.le_of_ble_eq_true rfl) (m_round hM.s ht hc (⟨rfl, rfl, ?_⟩))
    have := rnd_lt ht hc
    refine x_icmpn_ge (pc := 132) (tgt := 140) (a := (rnd z c)) (b := (rnd t c)) dX10_line_132 (by decide) (by omega) (by omega) (fun c132 => ?_) (fun c132 => ?_)
    · skip
      refine x_iload (pc := 140) dX10_line_140 rfl ?_
      refine x_istore (pc := 142) (lv' := [(0, .ref M), (1, .int (nI b)), (2, .int (nI c)), (3, .int (nI t)), (4, .int (xo u)), (5, .int 2), (6, .int (nI z))]) dX10_line_142 (by decide) rfl ?_
      refine x_iinc (pc := 144) (v := 1) (lv' := [(0, .ref M), (1, .int (nI b)), (2, .int (nI c)), (3, .int (nI t)), (4, .int (xo u)), (5, .int 1), (6, .int (nI z))]) dX10_line_144 rfl (by decide) (by decide) rfl ?_
      refine x_goto (pc := 147) (tgt := 100) dX10_line_147 (by decide) ?_
      first
      | (rw [stB_s (stA_s hz9 (show rnd z c < rnd t c by omega))] at K; exact X.keep [0, 1, 2, 3, 4, 5] rfl K)
      | (rw [stB_n (stA_f hz9 (show ¬ rnd z c < rnd t c by omega))] at K; exact X.keep [0, 1, 2, 3, 4, 5] rfl K)
      | (rw [stB_n (stA_n hz9)] at K; exact X.keep [0, 1, 2, 3, 4, 5] rfl K)
    · skip
      refine x_iload (pc := 135) dX10_line_135 rfl ?_
      refine x_goto (pc := 137) (tgt := 142) dX10_line_137 (by decide) ?_
      refine x_istore (pc := 142) (lv' := [(0, .ref M), (1, .int (nI b)), (2, .int (nI c)), (3, .int (nI t)), (4, .int (nI z)), (5, .int 2), (6, .int (nI z))]) dX10_line_142 (by decide) rfl ?_
      refine x_iinc (pc := 144) (v := 1) (lv' := [(0, .ref M), (1, .int (nI b)), (2, .int (nI c)), (3, .int (nI t)), (4, .int (nI z)), (5, .int 1), (6, .int (nI z))]) dX10_line_144 rfl (by decide) (by decide) rfl ?_
      refine x_goto (pc := 147) (tgt := 100) dX10_line_147 (by decide) ?_
      first
      | (rw [stB_s (stA_s hz9 (show rnd z c < rnd t c by omega))] at K; exact X.keep [0, 1, 2, 3, 4, 5] rfl K)
      | (rw [stB_n (stA_f hz9 (show ¬ rnd z c < rnd t c by omega))] at K; exact X.keep [0, 1, 2, 3, 4, 5] rfl K)
      | (rw [stB_n (stA_n hz9)] at K; exact X.keep [0, 1, 2, 3, 4, 5] rfl K)
  · skip
    refine x_istore (pc := 112) (lv' := [(0, .ref M), (1, .int (nI b)), (2, .int (nI c)), (3, .int (nI t)), (4, .int (xo u)), (5, .int 2), (6, .int (-1))]) dX10_line_112 (by decide) rfl ?_
    refine x_iload (pc := 114) dX10_line_114 rfl ?_
    refine x_if_lt_t (pc := 116) (tgt := 140) dX10_line_116 (by decide) (by decide) ?_
    refine x_iload (pc := 140) dX10_line_140 rfl ?_
    refine x_istore (pc := 142) (lv' := [(0, .ref M), (1, .int (nI b)), (2, .int (nI c)), (3, .int (nI t)), (4, .int (xo u)), (5, .int 2), (6, .int (-1))]) dX10_line_142 (by decide) rfl ?_
    refine x_iinc (pc := 144) (v := 1) (lv' := [(0, .ref M), (1, .int (nI b)), (2, .int (nI c)), (3, .int (nI t)), (4, .int (xo u)), (5, .int 1), (6, .int (-1))]) dX10_line_144 rfl (by decide) (by decide) rfl ?_
    refine x_goto (pc := 147) (tgt := 100) dX10_line_147 (by decide) ?_
    first
    | (rw [stB_s (stA_s hz9 (show rnd z c < rnd t c by omega))] at K; exact X.keep [0, 1, 2, 3, 4, 5] rfl K)
    | (rw [stB_n (stA_f hz9 (show ¬ rnd z c < rnd t c by omega))] at K; exact X.keep [0, 1, 2, 3, 4, 5] rfl K)
    | (rw [stB_n (stA_n hz9)] at K; exact X.keep [0, 1, 2, 3, 4, 5] rfl K)

set_option maxHeartbeats 4000000 in
set_option maxRecDepth 100000 in
theorem lm_st1 {T : xT} {n : Nat} {sh : Nat → Nat × Nat} {I : xI} {R : xR} {L : xL} {P : xPost} {M b c t : Nat} (hM : xModel sh R M) (hb : b < 6) (hc : c < 36) (ht : t < 36) {u : Option Nat} (K : X T zX10_line 6 0 0 P 100 [(0, .ref M), (1, .int (nI b)), (2, .int (nI c)), (3, .int (nI t)), (4, .int (xo (stB t c 1 u))), (5, .int 0)] [] (n, sh, 0, 0) I R L)  :  X T zX10_line 6 0 0 P 100 [(0, .ref M), (1, .int (nI b)), (2, .int (nI c)), (3, .int (nI t)), (4, .int (xo u)), (5, .int 1)] [] (n, sh, 0, 0) (I) R L := by
  refine x_iload (pc := 100) dX10_line_100 rfl ?_
  refine x_if_lt_f (pc := 102) (tgt := 150) dX10_line_102 (by decide) (by decide) ?_
  refine x_aload_n (pc := 105) dX10_line_105 rfl rfl ?_
  refine x_iload_n (pc := 106) dX10_line_106 rfl rfl ?_
  refine x_iload (pc := 107) dX10_line_107 rfl ?_
  refine x_callV (pc := 109) (As := [.int _, .int _]) dX10_line_109 km_X10_beside kv_X10_beside kl_RX10_304 hM.s rfl rfl (by decide) ⟨Nat.le_refl _, Nat.le_refl _⟩ rfl (Nat.le_of_ble_eq_true rfl) (Nat.le_of_ble_eq_true rfl) (m_beside (s := 1) ht (by decide) (fun z hz9 => ⟨rfl, rfl, ?_⟩) (fun hz9 => ⟨rfl, rfl, ?_⟩))
  · skip
    have hz36 := nxt_lt8 ht hz9
    refine x_istore (pc := 112) (lv' := [(0, .ref M), (1, .int (nI b)), (2, .int (nI c)), (3, .int (nI t)), (4, .int (xo u)), (5, .int 1), (6, .int (nI z))]) dX10_line_112 (by decide) rfl ?_
    refine x_iload (pc := 114) dX10_line_114 rfl ?_
    refine x_ifn_lt (pc := 116) (a := z) dX10_line_116 ⟨140, by decide⟩ (by omega) ?_
    refine x_aload_n (pc := 119) dX10_line_119 rfl rfl ?_
    refine x_iload (pc := 120) dX10_line_120 rfl ?_
    refine x_iload_n (pc := 122) dX10_line_122 rfl rfl ?_
    refine x_callV (pc := 123) (As := [.int _, .int _]) dX10_line_123 km_X10_round kv_X10_round kl_RX10_328 hM.s rfl rfl (by decide) ⟨Nat.le_refl _, Nat.le_refl _⟩ rfl (Nat.le_of_ble_eq_true rfl) (Nat.le_of_ble_eq_true rfl) (m_round hM.s hz36 hc (⟨rfl, rfl, ?_⟩))
    have := rnd_lt hz36 hc
    refine x_aload_n (pc := 126) dX10_line_126 rfl rfl ?_
    refine x_iload_n (pc := 127) dX10_line_127 rfl rfl ?_
    refine x_iload_n (pc := 128) dX10_line_128 rfl rfl ?_
    refine x_callV (pc := 129) (As := [.int _, .int _]) dX10_line_129 km_X10_round kv_X10_round kl_RX10_328 hM.s rfl rfl (by decide) ⟨Nat.le_refl _, Nat.le_refl _⟩ rfl (Nat.le_of_ble_eq_true rfl) (Nat.le_of_ble_eq_true rfl) (m_round hM.s ht hc (⟨rfl, rfl, ?_⟩))
    have := rnd_lt ht hc
    refine x_icmpn_ge (pc := 132) (tgt := 140) (a := (rnd z c)) (b := (rnd t c)) dX10_line_132 (by decide) (by omega) (by omega) (fun c132 => ?_) (fun c132 => ?_)
    · skip
      refine x_iload (pc := 140) dX10_line_140 rfl ?_
      refine x_istore (pc := 142) (lv' := [(0, .ref M), (1, .int (nI b)), (2, .int (nI c)), (3, .int (nI t)), (4, .int (xo u)), (5, .int 1), (6, .int (nI z))]) dX10_line_142 (by decide) rfl ?_
      refine x_iinc (pc := 144) (v := 0) (lv' := [(0, .ref M), (1, .int (nI b)), (2, .int (nI c)), (3, .int (nI t)), (4, .int (xo u)), (5, .int 0), (6, .int (nI z))]) dX10_line_144 rfl (by decide) (by decide) rfl ?_
      refine x_goto (pc := 147) (tgt := 100) dX10_line_147 (by decide) ?_
      first
      | (rw [stB_s (stA_s hz9 (show rnd z c < rnd t c by omega))] at K; exact X.keep [0, 1, 2, 3, 4, 5] rfl K)
      | (rw [stB_n (stA_f hz9 (show ¬ rnd z c < rnd t c by omega))] at K; exact X.keep [0, 1, 2, 3, 4, 5] rfl K)
      | (rw [stB_n (stA_n hz9)] at K; exact X.keep [0, 1, 2, 3, 4, 5] rfl K)
    · skip
      refine x_iload (pc := 135) dX10_line_135 rfl ?_
      refine x_goto (pc := 137) (tgt := 142) dX10_line_137 (by decide) ?_
      refine x_istore (pc := 142) (lv' := [(0, .ref M), (1, .int (nI b)), (2, .int (nI c)), (3, .int (nI t)), (4, .int (nI z)), (5, .int 1), (6, .int (nI z))]) dX10_line_142 (by decide) rfl ?_
      refine x_iinc (pc := 144) (v := 0) (lv' := [(0, .ref M), (1, .int (nI b)), (2, .int (nI c)), (3, .int (nI t)), (4, .int (nI z)), (5, .int 0), (6, .int (nI z))]) dX10_line_144 rfl (by decide) (by decide) rfl ?_
      refine x_goto (pc := 147) (tgt := 100) dX10_line_147 (by decide) ?_
      first
      | (rw [stB_s (stA_s hz9 (show rnd z c < rnd t c by omega))] at K; exact X.keep [0, 1, 2, 3, 4, 5] rfl K)
      | (rw [stB_n (stA_f hz9 (show ¬ rnd z c < rnd t c by omega))] at K; exact X.keep [0, 1, 2, 3, 4, 5] rfl K)
      | (rw [stB_n (stA_n hz9)] at K; exact X.keep [0, 1, 2, 3, 4, 5] rfl K)
  · skip
    refine x_istore (pc := 112) (lv' := [(0, .ref M), (1, .int (nI b)), (2, .int (nI c)), (3, .int (nI t)), (4, .int (xo u)), (5, .int 1), (6, .int (-1))]) dX10_line_112 (by decide) rfl ?_
    refine x_iload (pc := 114) dX10_line_114 rfl ?_
    refine x_if_lt_t (pc := 116) (tgt := 140) dX10_line_116 (by decide) (by decide) ?_
    refine x_iload (pc := 140) dX10_line_140 rfl ?_
    refine x_istore (pc := 142) (lv' := [(0, .ref M), (1, .int (nI b)), (2, .int (nI c)), (3, .int (nI t)), (4, .int (xo u)), (5, .int 1), (6, .int (-1))]) dX10_line_142 (by decide) rfl ?_
    refine x_iinc (pc := 144) (v := 0) (lv' := [(0, .ref M), (1, .int (nI b)), (2, .int (nI c)), (3, .int (nI t)), (4, .int (xo u)), (5, .int 0), (6, .int (-1))]) dX10_line_144 rfl (by decide) (by decide) rfl ?_
    refine x_goto (pc := 147) (tgt := 100) dX10_line_147 (by decide) ?_
    first
    | (rw [stB_s (stA_s hz9 (show rnd z c < rnd t c by omega))] at K; exact X.keep [0, 1, 2, 3, 4, 5] rfl K)
    | (rw [stB_n (stA_f hz9 (show ¬ rnd z c < rnd t c by omega))] at K; exact X.keep [0, 1, 2, 3, 4, 5] rfl K)
    | (rw [stB_n (stA_n hz9)] at K; exact X.keep [0, 1, 2, 3, 4, 5] rfl K)

set_option maxHeartbeats 4000000 in
set_option maxRecDepth 100000 in
theorem lm_st0 {T : xT} {n : Nat} {sh : Nat → Nat × Nat} {I : xI} {R : xR} {L : xL} {P : xPost} {M b c t : Nat} (hM : xModel sh R M) (hb : b < 6) (hc : c < 36) (ht : t < 36) {u : Option Nat} (K : X T zX10_line 6 0 0 P 100 [(0, .ref M), (1, .int (nI b)), (2, .int (nI c)), (3, .int (nI t)), (4, .int (xo (stB t c 0 u))), (5, .int (-1))] [] (n, sh, 0, 0) I R L)  :  X T zX10_line 6 0 0 P 100 [(0, .ref M), (1, .int (nI b)), (2, .int (nI c)), (3, .int (nI t)), (4, .int (xo u)), (5, .int 0)] [] (n, sh, 0, 0) (I) R L := by
  refine x_iload (pc := 100) dX10_line_100 rfl ?_
  refine x_if_lt_f (pc := 102) (tgt := 150) dX10_line_102 (by decide) (by decide) ?_
  refine x_aload_n (pc := 105) dX10_line_105 rfl rfl ?_
  refine x_iload_n (pc := 106) dX10_line_106 rfl rfl ?_
  refine x_iload (pc := 107) dX10_line_107 rfl ?_
  refine x_callV (pc := 109) (As := [.int _, .int _]) dX10_line_109 km_X10_beside kv_X10_beside kl_RX10_304 hM.s rfl rfl (by decide) ⟨Nat.le_refl _, Nat.le_refl _⟩ rfl (Nat.le_of_ble_eq_true rfl) (Nat.le_of_ble_eq_true rfl) (m_beside (s := 0) ht (by decide) (fun z hz9 => ⟨rfl, rfl, ?_⟩) (fun hz9 => ⟨rfl, rfl, ?_⟩))
  · skip
    have hz36 := nxt_lt8 ht hz9
    refine x_istore (pc := 112) (lv' := [(0, .ref M), (1, .int (nI b)), (2, .int (nI c)), (3, .int (nI t)), (4, .int (xo u)), (5, .int 0), (6, .int (nI z))]) dX10_line_112 (by decide) rfl ?_
    refine x_iload (pc := 114) dX10_line_114 rfl ?_
    refine x_ifn_lt (pc := 116) (a := z) dX10_line_116 ⟨140, by decide⟩ (by omega) ?_
    refine x_aload_n (pc := 119) dX10_line_119 rfl rfl ?_
    refine x_iload (pc := 120) dX10_line_120 rfl ?_
    refine x_iload_n (pc := 122) dX10_line_122 rfl rfl ?_
    refine x_callV (pc := 123) (As := [.int _, .int _]) dX10_line_123 km_X10_round kv_X10_round kl_RX10_328 hM.s rfl rfl (by decide) ⟨Nat.le_refl _, Nat.le_refl _⟩ rfl (Nat.le_of_ble_eq_true rfl) (Nat.le_of_ble_eq_true rfl) (m_round hM.s hz36 hc (⟨rfl, rfl, ?_⟩))
    have := rnd_lt hz36 hc
    refine x_aload_n (pc := 126) dX10_line_126 rfl rfl ?_
    refine x_iload_n (pc := 127) dX10_line_127 rfl rfl ?_
    refine x_iload_n (pc := 128) dX10_line_128 rfl rfl ?_
    refine x_callV (pc := 129) (As := [.int _, .int _]) dX10_line_129 km_X10_round kv_X10_round kl_RX10_328 hM.s rfl rfl (by decide) ⟨Nat.le_refl _, Nat.le_refl _⟩ rfl (Nat.le_of_ble_eq_true rfl) (Nat.le_of_ble_eq_true rfl) (m_round hM.s ht hc (⟨rfl, rfl, ?_⟩))
    have := rnd_lt ht hc
    refine x_icmpn_ge (pc := 132) (tgt := 140) (a := (rnd z c)) (b := (rnd t c)) dX10_line_132 (by decide) (by omega) (by omega) (fun c132 => ?_) (fun c132 => ?_)
    · skip
      refine x_iload (pc := 140) dX10_line_140 rfl ?_
      refine x_istore (pc := 142) (lv' := [(0, .ref M), (1, .int (nI b)), (2, .int (nI c)), (3, .int (nI t)), (4, .int (xo u)), (5, .int 0), (6, .int (nI z))]) dX10_line_142 (by decide) rfl ?_
      refine x_iinc (pc := 144) (v := (-1)) (lv' := [(0, .ref M), (1, .int (nI b)), (2, .int (nI c)), (3, .int (nI t)), (4, .int (xo u)), (5, .int (-1)), (6, .int (nI z))]) dX10_line_144 rfl (by decide) (by decide) rfl ?_
      refine x_goto (pc := 147) (tgt := 100) dX10_line_147 (by decide) ?_
      first
      | (rw [stB_s (stA_s hz9 (show rnd z c < rnd t c by omega))] at K; exact X.keep [0, 1, 2, 3, 4, 5] rfl K)
      | (rw [stB_n (stA_f hz9 (show ¬ rnd z c < rnd t c by omega))] at K; exact X.keep [0, 1, 2, 3, 4, 5] rfl K)
      | (rw [stB_n (stA_n hz9)] at K; exact X.keep [0, 1, 2, 3, 4, 5] rfl K)
    · skip
      refine x_iload (pc := 135) dX10_line_135 rfl ?_
      refine x_goto (pc := 137) (tgt := 142) dX10_line_137 (by decide) ?_
      refine x_istore (pc := 142) (lv' := [(0, .ref M), (1, .int (nI b)), (2, .int (nI c)), (3, .int (nI t)), (4, .int (nI z)), (5, .int 0), (6, .int (nI z))]) dX10_line_142 (by decide) rfl ?_
      refine x_iinc (pc := 144) (v := (-1)) (lv' := [(0, .ref M), (1, .int (nI b)), (2, .int (nI c)), (3, .int (nI t)), (4, .int (nI z)), (5, .int (-1)), (6, .int (nI z))]) dX10_line_144 rfl (by decide) (by decide) rfl ?_
      refine x_goto (pc := 147) (tgt := 100) dX10_line_147 (by decide) ?_
      first
      | (rw [stB_s (stA_s hz9 (show rnd z c < rnd t c by omega))] at K; exact X.keep [0, 1, 2, 3, 4, 5] rfl K)
      | (rw [stB_n (stA_f hz9 (show ¬ rnd z c < rnd t c by omega))] at K; exact X.keep [0, 1, 2, 3, 4, 5] rfl K)
      | (rw [stB_n (stA_n hz9)] at K; exact X.keep [0, 1, 2, 3, 4, 5] rfl K)
  · skip
    refine x_istore (pc := 112) (lv' := [(0, .ref M), (1, .int (nI b)), (2, .int (nI c)), (3, .int (nI t)), (4, .int (xo u)), (5, .int 0), (6, .int (-1))]) dX10_line_112 (by decide) rfl ?_
    refine x_iload (pc := 114) dX10_line_114 rfl ?_
    refine x_if_lt_t (pc := 116) (tgt := 140) dX10_line_116 (by decide) (by decide) ?_
    refine x_iload (pc := 140) dX10_line_140 rfl ?_
    refine x_istore (pc := 142) (lv' := [(0, .ref M), (1, .int (nI b)), (2, .int (nI c)), (3, .int (nI t)), (4, .int (xo u)), (5, .int 0), (6, .int (-1))]) dX10_line_142 (by decide) rfl ?_
    refine x_iinc (pc := 144) (v := (-1)) (lv' := [(0, .ref M), (1, .int (nI b)), (2, .int (nI c)), (3, .int (nI t)), (4, .int (xo u)), (5, .int (-1)), (6, .int (-1))]) dX10_line_144 rfl (by decide) (by decide) rfl ?_
    refine x_goto (pc := 147) (tgt := 100) dX10_line_147 (by decide) ?_
    first
    | (rw [stB_s (stA_s hz9 (show rnd z c < rnd t c by omega))] at K; exact X.keep [0, 1, 2, 3, 4, 5] rfl K)
    | (rw [stB_n (stA_f hz9 (show ¬ rnd z c < rnd t c by omega))] at K; exact X.keep [0, 1, 2, 3, 4, 5] rfl K)
    | (rw [stB_n (stA_n hz9)] at K; exact X.keep [0, 1, 2, 3, 4, 5] rfl K)

set_option maxHeartbeats 4000000 in
set_option maxRecDepth 100000 in
theorem lm_stE {T : xT} {n : Nat} {sh : Nat → Nat × Nat} {I : xI} {R : xR} {L : xL} {P : xPost} {M b c t : Nat} (hM : xModel sh R M) (hb : b < 6) (hc : c < 36) (ht : t < 36) {v : Int32} (K : X T zX10_line 6 0 0 P 69 [(0, .ref M), (1, .int (nI b)), (2, .int (nI c)), (3, .int v)] [] (n, sh, 0, 0) I R L)  :  X T zX10_line 6 0 0 P 100 [(0, .ref M), (1, .int (nI b)), (2, .int (nI c)), (3, .int (nI t)), (4, .int v), (5, .int (-1))] [] (n, sh, 0, 0) (I) R L := by
  refine x_iload (pc := 100) dX10_line_100 rfl ?_
  refine x_if_lt_t (pc := 102) (tgt := 150) dX10_line_102 (by decide) (by decide) ?_
  refine x_iload (pc := 150) dX10_line_150 rfl ?_
  refine x_istore_n (pc := 152) (lv' := [(0, .ref M), (1, .int (nI b)), (2, .int (nI c)), (3, .int v), (4, .int v), (5, .int (-1))]) dX10_line_152 rfl (by decide) rfl ?_
  refine x_goto (pc := 153) (tgt := 69) dX10_line_153 (by decide) ?_
  exact X.keep [0, 1, 2, 3] rfl K

set_option maxHeartbeats 4000000 in
set_option maxRecDepth 100000 in
theorem lm_line {T : xT} {n : Nat} {sh : Nat → Nat × Nat} {I : xI} {R : xR} {L : xL} {P : xPost} {M : Nat} (hM : xModel sh R M) {V : xV} {o : Option xAR} {b N : Nat} {sp : Int32} (v6 : V 8 0 ≤ 6) (hb : b < V 8 0) (hc : V 2 b < 36) (K : ∀ I2 : xI, mdT M I I2 → P (n, sh, 0, 0) I2 R L (some (.int sp)))  : ∀ (w i : Nat), i + w = N → ∀ (J : xI) (t t0 : Nat), MS sh R J M (V 8 0) (V 0) (V 1) (V 2) (V 3) (V 4) t0 (V 8 2) 0 o → mdT M I J → t < 36 → rnd t (V 2 b) = w → sp = lnW V o b w t → X T zX10_line 6 0 0 P 69 [(0, .ref M), (1, .int (nI b)), (2, .int (nI (V 2 b))), (3, .int (nI t))] [] (n, sh, 0, 0) (J) R L := by
  intro w
  induction w with
  | zero =>
    intro i hw J t t0 hj fj ht hw9 hv9
    have hz : i = N := by omega
    refine x_iload_n (pc := 69) dX10_line_69 rfl rfl ?_
    refine x_iload_n (pc := 70) dX10_line_70 rfl rfl ?_
    refine x_icmpn_eq_t (pc := 71) (tgt := 156) (a := t) (b := (V 2 b)) dX10_line_71 (by decide) (by omega) (by omega) (rnd_0 hw9) ?_
    refine x_bipush (pc := 156) (v := -5) dX10_line_156 (by decide) ?_
    refine x_ireturn (pc := 158) dX10_line_158 ⟨_, rfl, rfl⟩ ⟨Nat.le_refl _, Nat.le_refl _⟩ ?_
    have h9 := K J fj
    rw [hv9] at h9
    exact h9
  | succ w ih =>
    intro i hw J t t0 hj fj ht hw9 hv9
    have hi : i < N := by omega
    refine x_iload_n (pc := 69) dX10_line_69 rfl rfl ?_
    refine x_iload_n (pc := 70) dX10_line_70 rfl rfl ?_
    refine x_icmpn_eq_f (pc := 71) (tgt := 156) (a := t) (b := (V 2 b)) dX10_line_71 (by decide) (by omega) (by omega) (fun q => by rw [q, rnd_aa _ hc] at hw9; omega) ?_
    refine x_aload_n (pc := 74) dX10_line_74 rfl rfl ?_
    refine x_iload_n (pc := 75) dX10_line_75 rfl rfl ?_
    refine x_put (pc := 76) dX10_line_76 kf_RX10_92 hM.s rfl (Or.inl kb_10_27) ?_
    have hj0 := hj.setTamer ht
    refine x_aload_n (pc := 79) dX10_line_79 rfl rfl ?_
    refine x_iload_n (pc := 80) dX10_line_80 rfl rfl ?_
    refine x_callV (pc := 81) (As := [.int _]) dX10_line_81 km_X10_doesOf kv_X10_doesOf kl_RX10_341 hM.s rfl rfl (by decide) ⟨Nat.le_refl _, Nat.le_refl _⟩ rfl (Nat.le_of_ble_eq_true rfl) (Nat.le_of_ble_eq_true rfl) (m_doesOf hj0 hb (fun I2 g1 g3 => ⟨rfl, rfl, ?_⟩))
    have h2 := hj0.keep g1
    have dlt : (deedN (V 8 0) (V 0) (V 1) (V 2) (V 3) (V 4) t (V 8 2) 0 (lnO o) b).1 < 4 := deedN_code
    have ff : mdT M I I2 := (fj.tr (mdT.fld (by decide))).tr (mdT.of g1)
    refine x_ifn_le (pc := 84) (tgt := 94) (a := (deedN (V 8 0) (V 0) (V 1) (V 2) (V 3) (V 4) t (V 8 2) 0 (lnO o) b).1) dX10_line_84 (by decide) (by omega) (fun c84 => ?_) (fun c84 => ?_)
    · skip
      refine x_iconst (pc := 94) (v := -1) dX10_line_94 (by decide) ?_
      refine x_istore (pc := 95) (lv' := [(0, .ref M), (1, .int (nI b)), (2, .int (nI (V 2 b))), (3, .int (nI t)), (4, .int (-1))]) dX10_line_95 (by decide) rfl ?_
      refine x_iconst (pc := 97) (v := 3) dX10_line_97 (by decide) ?_
      refine x_istore (pc := 98) (lv' := [(0, .ref M), (1, .int (nI b)), (2, .int (nI (V 2 b))), (3, .int (nI t)), (4, .int (-1)), (5, .int 3)]) dX10_line_98 (by decide) rfl ?_
      obtain ⟨s1, s2, s3⟩ := stw_all t ht _ hc
      obtain ⟨s4, s5⟩ := s3 (fun q => by rw [q, rnd_aa _ hc] at hw9; omega)
      have hb6 : b < 6 := by omega
      refine lm_st3 (u := none) hM hb6 hc ht (lm_st2 hM hb6 hc ht (lm_st1 hM hb6 hc ht (lm_st0 hM hb6 hc ht (lm_stE hM hb6 hc ht ?_))))
      rw [s4]
      exact ih (i + 1) (by omega) I2 (stw t (V 2 b)) t h2 ff s1 (by omega) (hv9.trans (if_pos (by omega)))
    · skip
      refine x_aload_n (pc := 87) dX10_line_87 rfl rfl ?_
      refine x_iload_n (pc := 88) dX10_line_88 rfl rfl ?_
      refine x_iload_n (pc := 89) dX10_line_89 rfl rfl ?_
      refine x_callV (pc := 90) (As := [.int _, .int _]) dX10_line_90 km_X10_far kv_X10_far kl_RX10_301 hM.s rfl rfl (by decide) ⟨Nat.le_refl _, Nat.le_refl _⟩ rfl (Nat.le_of_ble_eq_true rfl) (Nat.le_of_ble_eq_true rfl) (m_far hM.s ht hc (⟨rfl, rfl, ?_⟩))
      have := far_lt ht hc
      refine x_ireturn (pc := 93) dX10_line_93 ⟨_, rfl, rfl⟩ ⟨Nat.le_refl _, Nat.le_refl _⟩ ?_
      have h9 := K I2 ff
      rw [hv9, show lnW V o b (w + 1) t = nI (far t (V 2 b)) from if_neg (by omega)] at h9
      exact h9

set_option maxHeartbeats 4000000 in
set_option maxRecDepth 100000 in
theorem m_line {T : xT} {n : Nat} {sh : Nat → Nat × Nat} {I : xI} {R : xR} {L : xL} {P : xPost} {M : Nat} (hM : xModel sh R M) {V : xV} {B rc : Nat} {ars : Nat → xAR} (h : MDV I M V) (hv : VOK V B) (hB : B < 800000) (hr : mRings I M rc ars) (hV6 : V 8 6 ≤ rc) {x : Int32} (K : ∀ I2 : xI, MDV I2 M V → mdP M I I2 → P (n, sh, 0, 0) I2 R L (some (.int (spLine V (rgVal ars V) x))))  : XM T zX10_line 6 [.ref M, .int x] n sh I R L P := by
  obtain ⟨v6, v12, v10, vb, vf, vw, vm, vta, vte, vod, vrg, vdi⟩ := id hv
  refine x_aload_n (pc := 0) dX10_line_0 rfl rfl ?_
  refine x_iload_n (pc := 1) dX10_line_1 rfl rfl ?_
  refine x_callV (pc := 2) (As := [.int _]) dX10_line_2 km_X10_isBeast kv_X10_isBeast kl_RX10_246 hM.s rfl rfl (by decide) ⟨Nat.le_refl _, Nat.le_refl _⟩ rfl (Nat.le_of_ble_eq_true rfl) (Nat.le_of_ble_eq_true rfl) (m_isBeast hM h.1 v6 (fun k hk ek => ⟨rfl, rfl, ?_⟩) (fun h1 => ⟨rfl, rfl, ?_⟩))
  · skip
    subst ek
    refine x_if_ne_t (pc := 5) (tgt := 10) dX10_line_5 (by decide) (by decide) ?_
    refine x_aload_n (pc := 10) dX10_line_10 rfl rfl ?_
    refine x_callV (pc := 11) (As := []) dX10_line_11 km_X10_asIs kv_X10_asIs kl_RX10_338 hM.s rfl rfl (by decide) ⟨Nat.le_refl _, Nat.le_refl _⟩ rfl (Nat.le_of_ble_eq_true rfl) (Nat.le_of_ble_eq_true rfl) (m_asIs hM (fun I2 k1 k2 k3 k4 k5 k6 k7 => ⟨rfl, rfl, ?_⟩))
    have hms := h.toMS hM hv hB hr hV6 k1 k2 k3 k4 k5 k6 k7
    have f2 : mdT M I I2 := mdT.asIs k1 k2
    have hcc := (vb k hk).2.2.1
    have hm2 := (h.keepT f2).2.2.2.2.2.2.2.1 2 (by decide) k hk
    refine x_aload_n (pc := 14) dX10_line_14 rfl rfl ?_
    refine x_getr (pc := 15) dX10_line_15 kf_RX10_29 hM.s rfl hM.f2 ?_
    refine x_iload_n (pc := 18) dX10_line_18 rfl rfl ?_
    refine x_ialdn (pc := 19) (a := k) dX10_line_19 hM.s2 (by omega) (by omega) ?_
    rw [show I2 (M + 3) k = nI (V 2 k) from hm2]
    refine x_istore_n (pc := 20) (lv' := [(0, .ref M), (1, .int (nI k)), (2, .int (nI (V 2 k)))]) dX10_line_20 rfl (by decide) rfl ?_
    refine x_iconst (pc := 21) (v := 0) dX10_line_21 (by decide) ?_
    refine x_istore_n (pc := 22) (lv' := [(0, .ref M), (1, .int (nI k)), (2, .int (nI (V 2 k))), (3, .int 0)]) dX10_line_22 rfl (by decide) rfl ?_
    refine x_iconst (pc := 23) (v := 1) dX10_line_23 (by decide) ?_
    refine x_istore (pc := 24) (lv' := [(0, .ref M), (1, .int (nI k)), (2, .int (nI (V 2 k))), (3, .int 0), (4, .int 1)]) dX10_line_24 (by decide) rfl ?_
    have hb6 : k < 6 := by omega
    have q1 : fth 0 5 (V 2 k) < 36 := fth_lt (by decide) (by decide)
    have q2 : fth (fth 0 5 (V 2 k)) 30 (V 2 k) < 36 := fth_lt q1 (by decide)
    refine lm_cor1 (q := 0) hM hb6 hcc (by decide) (lm_cor2 hM hb6 hcc q1 (lm_cor3 hM hb6 hcc q2 (lm_corE hM hb6 hcc fcn_lt ?_)))
    exact lm_line (N := rnd (fcn (V 2 k)) (V 2 k)) hM v6 hk hcc (fun I3 f3 => K I3 (h.keepT (f2.tr f3)) (f2.tr f3).mdP) (rnd (fcn (V 2 k)) (V 2 k)) 0 (by omega) I2 (fcn (V 2 k)) (V 8 1) hms mdT.rf fcn_lt rfl (spLine_s hk v6)
  · skip
    refine x_if_ne_f (pc := 5) (tgt := 10) dX10_line_5 (by decide) (by decide) ?_
    refine x_iconst (pc := 8) (v := -1) dX10_line_8 (by decide) ?_
    refine x_ireturn (pc := 9) dX10_line_9 ⟨_, rfl, rfl⟩ ⟨Nat.le_refl _, Nat.le_refl _⟩ ?_
    have h9 := K I h mdP.rf
    rw [spLine_n h1] at h9
    exact h9

