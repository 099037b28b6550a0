/-! ===== act: the reference ===== -/
set_option maxHeartbeats 4000000 in
set_option maxRecDepth 100000 in
theorem m_body {T : xT} {n : Nat} {sh : Nat → Nat × Nat} {I : xI} {R : xR} {L : xL} {P : xPost} {M ka v b r : Nat} {x : Int32} {f : Nat → Nat} (hM : xModel sh R M) (h : ATM I M ka v b r f) (hr : r < 20) (K : P (n, sh, 0, 0) (up2 (up2 I (M + 35) r x) M 64 (nI (r + 1))) R L none)  : XM T zX10_body 0 [.ref M, .int x] n sh I R L P := by
  refine x_aload_n (pc := 0) dX10_body_0 rfl rfl ?_
  refine x_get (pc := 1) dX10_body_1 kf_RX10_205 hM.s rfl ?_
  rw [h.1]
  refine x_bipush (pc := 4) (v := 20) dX10_body_4 (by decide) ?_
  refine x_icmpn_ge_f (pc := 6) (tgt := 19) (a := r) (b := 20) dX10_body_6 (by decide) (by omega) (by decide) (by omega) ?_
  refine x_aload_n (pc := 9) dX10_body_9 rfl rfl ?_
  refine x_getr (pc := 10) dX10_body_10 kf_RX10_208 hM.s rfl hM.f34 ?_
  refine x_aload_n (pc := 13) dX10_body_13 rfl rfl ?_
  refine x_get (pc := 14) dX10_body_14 kf_RX10_205 hM.s rfl ?_
  rw [h.1]
  refine x_iload_n (pc := 17) dX10_body_17 rfl rfl ?_
  refine x_iastn (pc := 18) (a := r) dX10_body_18 hM.s34 (by omega) (by omega) ?_
  refine x_aload_n (pc := 19) dX10_body_19 rfl rfl ?_
  refine x_dup (pc := 20) dX10_body_20 rfl ?_
  refine x_get (pc := 21) dX10_body_21 kf_RX10_205 hM.s rfl ?_
  rw [up2_row (show M ≠ M + 35 by omega), h.1]
  refine x_iconst (pc := 24) (v := 1) dX10_body_24 (by decide) ?_
  refine x_iaddn (pc := 25) (a := r) (b := 1) dX10_body_25 ?_
  refine x_put (pc := 26) dX10_body_26 kf_RX10_205 hM.s rfl (Or.inl kb_10_64) ?_
  refine x_return (pc := 29) dX10_body_29 rfl ⟨Nat.le_refl _, Nat.le_refl _⟩ ?_
  exact K

set_option maxHeartbeats 4000000 in
set_option maxRecDepth 100000 in
theorem m_moveYields {T : xT} {n : Nat} {sh : Nat → Nat × Nat} {I : xI} {R : xR} {L : xL} {P : xPost} {M : Nat} {ka v b r : Nat} {f : Nat → Nat} (hM : xModel sh R M) (hb : b < 6) {x : Int32} (hA : ATM I M ka v b r f) (hr : r + 1 ≤ 20) (K : ∀ J : xI, ATM J M ka v b (r + 1) (apL f r [10]) → amF M I J → P (n, sh, 0, 0) J R L (some (.int (x + nI b)))) : XM T zX10_moveYields 1 [.ref M, .int (nI b), .int x] n sh I R L P := by
  refine x_aload_n (pc := 0) dX10_moveYields_0 rfl rfl ?_
  refine x_bipush (pc := 1) (v := 10) dX10_moveYields_1 (by decide) ?_
  refine x_callV (pc := 3) (As := [.int _]) dX10_moveYields_3 km_X10_body kv_X10_body kl_RX10_389 hM.s rfl rfl (by decide) ⟨Nat.le_refl _, Nat.le_refl _⟩ rfl (Nat.le_of_ble_eq_true rfl) (Nat.le_of_ble_eq_true rfl) (m_body (x := 10) hM hA (by omega) (⟨rfl, rfl, ?_⟩))
  have h1 := hA.step (x := 10) (a := 10) rfl
  have g1 := @amF.st M r I 10 (nI (r + 1))
  refine x_iload_n (pc := 6) dX10_moveYields_6 rfl rfl ?_
  refine x_iload_n (pc := 7) dX10_moveYields_7 rfl rfl ?_
  refine x_iadd (pc := 8) dX10_moveYields_8 ?_
  refine x_ireturn (pc := 9) dX10_moveYields_9 ⟨_, rfl, rfl⟩ ⟨Nat.le_refl _, Nat.le_refl _⟩ ?_
  exact K _ h1 g1

set_option maxHeartbeats 4000000 in
set_option maxRecDepth 100000 in
theorem m_comingYields {T : xT} {n : Nat} {sh : Nat → Nat × Nat} {I : xI} {R : xR} {L : xL} {P : xPost} {M : Nat} {ka v b r : Nat} {f : Nat → Nat} (hM : xModel sh R M) (hb : b < 6) {x : Int32} (hA : ATM I M ka v b r f) (hr : r + 2 ≤ 20) (K : ∀ J : xI, ATM J M ka v b (r + 2) (apL f r [30, 10]) → amF M I J → P (n, sh, 0, 0) J R L (some (.int ((x * 3) + nI b)))) : XM T zX10_comingYields 2 [.ref M, .int (nI b), .int x] n sh I R L P := by
  refine x_aload_n (pc := 0) dX10_comingYields_0 rfl rfl ?_
  refine x_bipush (pc := 1) (v := 30) dX10_comingYields_1 (by decide) ?_
  refine x_callV (pc := 3) (As := [.int _]) dX10_comingYields_3 km_X10_body kv_X10_body kl_RX10_389 hM.s rfl rfl (by decide) ⟨Nat.le_refl _, Nat.le_refl _⟩ rfl (Nat.le_of_ble_eq_true rfl) (Nat.le_of_ble_eq_true rfl) (m_body (x := 30) hM hA (by omega) (⟨rfl, rfl, ?_⟩))
  have h1 := hA.step (x := 30) (a := 30) rfl
  have g1 := @amF.st M r I 30 (nI (r + 1))
  refine x_aload_n (pc := 6) dX10_comingYields_6 rfl rfl ?_
  refine x_iload_n (pc := 7) dX10_comingYields_7 rfl rfl ?_
  refine x_iload_n (pc := 8) dX10_comingYields_8 rfl rfl ?_
  refine x_iconst (pc := 9) (v := 3) dX10_comingYields_9 (by decide) ?_
  refine x_imul (pc := 10) dX10_comingYields_10 ?_
  refine x_callV (pc := 11) (As := [.int _, .int _]) dX10_comingYields_11 km_X10_moveYields kv_X10_moveYields kl_RX10_392 hM.s rfl rfl (by decide) ⟨Nat.le_refl _, Nat.le_refl _⟩ rfl (Nat.le_of_ble_eq_true rfl) (Nat.le_of_ble_eq_true rfl) (m_moveYields hM hb h1 (by omega) (fun J2 h2 f2 => ⟨rfl, rfl, ?_⟩))
  have g2 := g1.tr f2
  refine x_ireturn (pc := 14) dX10_comingYields_14 ⟨_, rfl, rfl⟩ ⟨Nat.le_refl _, Nat.le_refl _⟩ ?_
  exact K _ h2 g2

set_option maxHeartbeats 4000000 in
set_option maxRecDepth 100000 in
theorem m_yields0 {T : xT} {n : Nat} {sh : Nat → Nat × Nat} {I : xI} {R : xR} {L : xL} {P : xPost} {M : Nat} {v b r : Nat} {f : Nat → Nat} (hM : xModel sh R M) (hb : b < 6) {x : Int32} (hA : ATM I M 0 v b r f) (hr : r + 1 ≤ 20) (K : ∀ J : xI, ATM J M 0 v b (r + 1) (apL f r [10]) → amF M I J → P (n, sh, 0, 0) J R L (some (.int (x + nI b)))) : XM T zX10_yieldsAct 3 [.ref M, .int (nI b), .int x] n sh I R L P := by
  refine x_aload_n (pc := 0) dX10_yieldsAct_0 rfl rfl ?_
  refine x_getr (pc := 1) dX10_yieldsAct_1 kf_RX10_22 hM.s rfl hM.f0 ?_
  refine x_iload_n (pc := 4) dX10_yieldsAct_4 rfl rfl ?_
  refine x_ialdn (pc := 5) (a := b) dX10_yieldsAct_5 hM.s0 (by omega) (by omega) ?_
  rw [hA.2.1, show nI 0 = 0 from rfl]
  refine x_tsw (pc := 6) (dt := 81) [(2, 40), (3, 81), (4, 47), (5, 81), (6, 61)] dX10_yieldsAct_6 (by decide +kernel) (by decide) ?_
  refine xsw_c (fun h => absurd h (by decide)) (fun _ => ?_)
  refine xsw_c (fun h => absurd h (by decide)) (fun _ => ?_)
  refine xsw_c (fun h => absurd h (by decide)) (fun _ => ?_)
  refine xsw_c (fun h => absurd h (by decide)) (fun _ => ?_)
  refine xsw_c (fun h => absurd h (by decide)) (fun _ => ?_)
  refine xsw_n ?_
  refine x_aload_n (pc := 81) dX10_yieldsAct_81 rfl rfl ?_
  refine x_iload_n (pc := 82) dX10_yieldsAct_82 rfl rfl ?_
  refine x_iload_n (pc := 83) dX10_yieldsAct_83 rfl rfl ?_
  refine x_callV (pc := 84) (As := [.int _, .int _]) dX10_yieldsAct_84 km_X10_moveYields kv_X10_moveYields kl_RX10_392 hM.s rfl rfl (by decide) ⟨Nat.le_refl _, Nat.le_refl _⟩ rfl (Nat.le_of_ble_eq_true rfl) (Nat.le_of_ble_eq_true rfl) (m_moveYields hM hb hA (by omega) (fun J1 h1 f1 => ⟨rfl, rfl, ?_⟩))
  have g1 := f1
  refine x_ireturn (pc := 87) dX10_yieldsAct_87 ⟨_, rfl, rfl⟩ ⟨Nat.le_refl _, Nat.le_refl _⟩ ?_
  exact K _ h1 g1

set_option maxHeartbeats 4000000 in
set_option maxRecDepth 100000 in
theorem m_moveComes0 {T : xT} {n : Nat} {sh : Nat → Nat × Nat} {I : xI} {R : xR} {L : xL} {P : xPost} {M : Nat} {v b r : Nat} {f : Nat → Nat} (hM : xModel sh R M) (hb : b < 6) {x : Int32} (hA : ATM I M 0 v b r f) (hr : r + 2 ≤ 20) (K : ∀ J : xI, ATM J M 0 v b (r + 2) (apL f r [11, 10]) → amF M I J → P (n, sh, 0, 0) J R L (some (.int ((x + nI b) - nI v)))) : XM T zX10_moveComes 4 [.ref M, .int (nI b), .int x] n sh I R L P := by
  refine x_aload_n (pc := 0) dX10_moveComes_0 rfl rfl ?_
  refine x_bipush (pc := 1) (v := 11) dX10_moveComes_1 (by decide) ?_
  refine x_callV (pc := 3) (As := [.int _]) dX10_moveComes_3 km_X10_body kv_X10_body kl_RX10_389 hM.s rfl rfl (by decide) ⟨Nat.le_refl _, Nat.le_refl _⟩ rfl (Nat.le_of_ble_eq_true rfl) (Nat.le_of_ble_eq_true rfl) (m_body (x := 11) hM hA (by omega) (⟨rfl, rfl, ?_⟩))
  have h1 := hA.step (x := 11) (a := 11) rfl
  have g1 := @amF.st M r I 11 (nI (r + 1))
  refine x_aload_n (pc := 6) dX10_moveComes_6 rfl rfl ?_
  refine x_iload_n (pc := 7) dX10_moveComes_7 rfl rfl ?_
  refine x_iload_n (pc := 8) dX10_moveComes_8 rfl rfl ?_
  refine x_callV (pc := 9) (As := [.int _, .int _]) dX10_moveComes_9 km_X10_yieldsAct kv_X10_yieldsAct kl_RX10_398 hM.s rfl rfl (by decide) ⟨Nat.le_refl _, Nat.le_refl _⟩ rfl (Nat.le_of_ble_eq_true rfl) (Nat.le_of_ble_eq_true rfl) (m_yields0 hM hb h1 (by omega) (fun J2 h2 f2 => ⟨rfl, rfl, ?_⟩))
  have g2 := g1.tr f2
  refine x_aload_n (pc := 12) dX10_moveComes_12 rfl rfl ?_
  refine x_getr (pc := 13) dX10_moveComes_13 kf_RX10_26 hM.s rfl hM.f1 ?_
  refine x_iload_n (pc := 16) dX10_moveComes_16 rfl rfl ?_
  refine x_ialdn (pc := 17) (a := b) dX10_moveComes_17 hM.s1 (by omega) (by omega) ?_
  rw [show _ = nI v from h2.2.2.1]
  refine x_isub (pc := 18) dX10_moveComes_18 ?_
  refine x_ireturn (pc := 19) dX10_moveComes_19 ⟨_, rfl, rfl⟩ ⟨Nat.le_refl _, Nat.le_refl _⟩ ?_
  exact K _ h2 g2

set_option maxHeartbeats 4000000 in
set_option maxRecDepth 100000 in
theorem m_yieldingComes0 {T : xT} {n : Nat} {sh : Nat → Nat × Nat} {I : xI} {R : xR} {L : xL} {P : xPost} {M : Nat} {v b r : Nat} {f : Nat → Nat} (hM : xModel sh R M) (hb : b < 6) {x : Int32} (hA : ATM I M 0 v b r f) (hr : r + 3 ≤ 20) (K : ∀ J : xI, ATM J M 0 v b (r + 3) (apL f r [20, 11, 10]) → amF M I J → P (n, sh, 0, 0) J R L (some (.int (((x + nI b) - nI v) ^^^ 6)))) : XM T zX10_yieldingComes 5 [.ref M, .int (nI b), .int x] n sh I R L P := by
  refine x_aload_n (pc := 0) dX10_yieldingComes_0 rfl rfl ?_
  refine x_bipush (pc := 1) (v := 20) dX10_yieldingComes_1 (by decide) ?_
  refine x_callV (pc := 3) (As := [.int _]) dX10_yieldingComes_3 km_X10_body kv_X10_body kl_RX10_389 hM.s rfl rfl (by decide) ⟨Nat.le_refl _, Nat.le_refl _⟩ rfl (Nat.le_of_ble_eq_true rfl) (Nat.le_of_ble_eq_true rfl) (m_body (x := 20) hM hA (by omega) (⟨rfl, rfl, ?_⟩))
  have h1 := hA.step (x := 20) (a := 20) rfl
  have g1 := @amF.st M r I 20 (nI (r + 1))
  refine x_aload_n (pc := 6) dX10_yieldingComes_6 rfl rfl ?_
  refine x_iload_n (pc := 7) dX10_yieldingComes_7 rfl rfl ?_
  refine x_iload_n (pc := 8) dX10_yieldingComes_8 rfl rfl ?_
  refine x_callV (pc := 9) (As := [.int _, .int _]) dX10_yieldingComes_9 km_X10_moveComes kv_X10_moveComes kl_RX10_401 hM.s rfl rfl (by decide) ⟨Nat.le_refl _, Nat.le_refl _⟩ rfl (Nat.le_of_ble_eq_true rfl) (Nat.le_of_ble_eq_true rfl) (m_moveComes0 hM hb h1 (by omega) (fun J2 h2 f2 => ⟨rfl, rfl, ?_⟩))
  have g2 := g1.tr f2
  refine x_bipush (pc := 12) (v := 6) dX10_yieldingComes_12 (by decide) ?_
  refine x_ixor (pc := 14) dX10_yieldingComes_14 ?_
  refine x_ireturn (pc := 15) dX10_yieldingComes_15 ⟨_, rfl, rfl⟩ ⟨Nat.le_refl _, Nat.le_refl _⟩ ?_
  exact K _ h2 g2

set_option maxHeartbeats 4000000 in
set_option maxRecDepth 100000 in
theorem m_comes0 {T : xT} {n : Nat} {sh : Nat → Nat × Nat} {I : xI} {R : xR} {L : xL} {P : xPost} {M : Nat} {v b r : Nat} {f : Nat → Nat} (hM : xModel sh R M) (hb : b < 6) {x : Int32} (hA : ATM I M 0 v b r f) (hr : r + 2 ≤ 20) (K : ∀ J : xI, ATM J M 0 v b (r + 2) (apL f r [11, 10]) → amF M I J → P (n, sh, 0, 0) J R L (some (.int ((x + nI b) - nI v)))) : XM T zX10_comesAct 6 [.ref M, .int (nI b), .int x] n sh I R L P := by
  refine x_aload_n (pc := 0) dX10_comesAct_0 rfl rfl ?_
  refine x_getr (pc := 1) dX10_comesAct_1 kf_RX10_22 hM.s rfl hM.f0 ?_
  refine x_iload_n (pc := 4) dX10_comesAct_4 rfl rfl ?_
  refine x_ialdn (pc := 5) (a := b) dX10_comesAct_5 hM.s0 (by omega) (by omega) ?_
  rw [hA.2.1, show nI 0 = 0 from rfl]
  refine x_tsw (pc := 6) (dt := 88) [(1, 44), (2, 88), (3, 88), (4, 51), (5, 44), (6, 66)] dX10_comesAct_6 (by decide +kernel) (by decide) ?_
  refine xsw_c (fun h => absurd h (by decide)) (fun _ => ?_)
  refine xsw_c (fun h => absurd h (by decide)) (fun _ => ?_)
  refine xsw_c (fun h => absurd h (by decide)) (fun _ => ?_)
  refine xsw_c (fun h => absurd h (by decide)) (fun _ => ?_)
  refine xsw_c (fun h => absurd h (by decide)) (fun _ => ?_)
  refine xsw_c (fun h => absurd h (by decide)) (fun _ => ?_)
  refine xsw_n ?_
  refine x_aload_n (pc := 88) dX10_comesAct_88 rfl rfl ?_
  refine x_iload_n (pc := 89) dX10_comesAct_89 rfl rfl ?_
  refine x_iload_n (pc := 90) dX10_comesAct_90 rfl rfl ?_
  refine x_callV (pc := 91) (As := [.int _, .int _]) dX10_comesAct_91 km_X10_moveComes kv_X10_moveComes kl_RX10_401 hM.s rfl rfl (by decide) ⟨Nat.le_refl _, Nat.le_refl _⟩ rfl (Nat.le_of_ble_eq_true rfl) (Nat.le_of_ble_eq_true rfl) (m_moveComes0 hM hb hA (by omega) (fun J1 h1 f1 => ⟨rfl, rfl, ?_⟩))
  have g1 := f1
  refine x_ireturn (pc := 94) dX10_comesAct_94 ⟨_, rfl, rfl⟩ ⟨Nat.le_refl _, Nat.le_refl _⟩ ?_
  exact K _ h1 g1

set_option maxHeartbeats 4000000 in
set_option maxRecDepth 100000 in
theorem m_moveTells0 {T : xT} {n : Nat} {sh : Nat → Nat × Nat} {I : xI} {R : xR} {L : xL} {P : xPost} {M : Nat} {v b r : Nat} {f : Nat → Nat} (hM : xModel sh R M) (hb : b < 6) {x : Int32} (hA : ATM I M 0 v b r f) (hr : r + 3 ≤ 20) (K : ∀ J : xI, ATM J M 0 v b (r + 3) (apL f r [12, 11, 10]) → amF M I J → P (n, sh, 0, 0) J R L (some (.int (((x + nI b) - nI v) * 2)))) : XM T zX10_moveTells 7 [.ref M, .int (nI b), .int x] n sh I R L P := by
  refine x_aload_n (pc := 0) dX10_moveTells_0 rfl rfl ?_
  refine x_bipush (pc := 1) (v := 12) dX10_moveTells_1 (by decide) ?_
  refine x_callV (pc := 3) (As := [.int _]) dX10_moveTells_3 km_X10_body kv_X10_body kl_RX10_389 hM.s rfl rfl (by decide) ⟨Nat.le_refl _, Nat.le_refl _⟩ rfl (Nat.le_of_ble_eq_true rfl) (Nat.le_of_ble_eq_true rfl) (m_body (x := 12) hM hA (by omega) (⟨rfl, rfl, ?_⟩))
  have h1 := hA.step (x := 12) (a := 12) rfl
  have g1 := @amF.st M r I 12 (nI (r + 1))
  refine x_aload_n (pc := 6) dX10_moveTells_6 rfl rfl ?_
  refine x_iload_n (pc := 7) dX10_moveTells_7 rfl rfl ?_
  refine x_iload_n (pc := 8) dX10_moveTells_8 rfl rfl ?_
  refine x_callV (pc := 9) (As := [.int _, .int _]) dX10_moveTells_9 km_X10_comesAct kv_X10_comesAct kl_RX10_407 hM.s rfl rfl (by decide) ⟨Nat.le_refl _, Nat.le_refl _⟩ rfl (Nat.le_of_ble_eq_true rfl) (Nat.le_of_ble_eq_true rfl) (m_comes0 hM hb h1 (by omega) (fun J2 h2 f2 => ⟨rfl, rfl, ?_⟩))
  have g2 := g1.tr f2
  refine x_iconst (pc := 12) (v := 2) dX10_moveTells_12 (by decide) ?_
  refine x_imul (pc := 13) dX10_moveTells_13 ?_
  refine x_ireturn (pc := 14) dX10_moveTells_14 ⟨_, rfl, rfl⟩ ⟨Nat.le_refl _, Nat.le_refl _⟩ ?_
  exact K _ h2 g2

set_option maxHeartbeats 4000000 in
set_option maxRecDepth 100000 in
theorem m_tells0 {T : xT} {n : Nat} {sh : Nat → Nat × Nat} {I : xI} {R : xR} {L : xL} {P : xPost} {M : Nat} {v b r : Nat} {f : Nat → Nat} (hM : xModel sh R M) (hb : b < 6) {x : Int32} (hA : ATM I M 0 v b r f) (hr : r + 3 ≤ 20) (K : ∀ J : xI, ATM J M 0 v b (r + 3) (apL f r [12, 11, 10]) → amF M I J → P (n, sh, 0, 0) J R L (some (.int (((x + nI b) - nI v) * 2)))) : XM T zX10_tellsAct 8 [.ref M, .int (nI b), .int x] n sh I R L P := by
  refine x_aload_n (pc := 0) dX10_tellsAct_0 rfl rfl ?_
  refine x_getr (pc := 1) dX10_tellsAct_1 kf_RX10_22 hM.s rfl hM.f0 ?_
  refine x_iload_n (pc := 4) dX10_tellsAct_4 rfl rfl ?_
  refine x_ialdn (pc := 5) (a := b) dX10_tellsAct_5 hM.s0 (by omega) (by omega) ?_
  rw [hA.2.1, show nI 0 = 0 from rfl]
  refine x_lsw (pc := 6) (dt := 69) [(3, 32), (5, 54)] dX10_tellsAct_6 (by decide +kernel) (by decide +kernel) (by decide) ?_
  refine xsw_c (fun h => absurd h (by decide)) (fun _ => ?_)
  refine xsw_c (fun h => absurd h (by decide)) (fun _ => ?_)
  refine xsw_n ?_
  refine x_aload_n (pc := 69) dX10_tellsAct_69 rfl rfl ?_
  refine x_iload_n (pc := 70) dX10_tellsAct_70 rfl rfl ?_
  refine x_iload_n (pc := 71) dX10_tellsAct_71 rfl rfl ?_
  refine x_callV (pc := 72) (As := [.int _, .int _]) dX10_tellsAct_72 km_X10_moveTells kv_X10_moveTells kl_RX10_410 hM.s rfl rfl (by decide) ⟨Nat.le_refl _, Nat.le_refl _⟩ rfl (Nat.le_of_ble_eq_true rfl) (Nat.le_of_ble_eq_true rfl) (m_moveTells0 hM hb hA (by omega) (fun J1 h1 f1 => ⟨rfl, rfl, ?_⟩))
  have g1 := f1
  refine x_ireturn (pc := 75) dX10_tellsAct_75 ⟨_, rfl, rfl⟩ ⟨Nat.le_refl _, Nat.le_refl _⟩ ?_
  exact K _ h1 g1

set_option maxHeartbeats 4000000 in
set_option maxRecDepth 100000 in
theorem m_yields1 {T : xT} {n : Nat} {sh : Nat → Nat × Nat} {I : xI} {R : xR} {L : xL} {P : xPost} {M : Nat} {v b r : Nat} {f : Nat → Nat} (hM : xModel sh R M) (hb : b < 6) {x : Int32} (hA : ATM I M 1 v b r f) (hr : r + 1 ≤ 20) (K : ∀ J : xI, ATM J M 1 v b (r + 1) (apL f r [10]) → amF M I J → P (n, sh, 0, 0) J R L (some (.int (x + nI b)))) : XM T zX10_yieldsAct 3 [.ref M, .int (nI b), .int x] n sh I R L P := by
  refine x_aload_n (pc := 0) dX10_yieldsAct_0 rfl rfl ?_
  refine x_getr (pc := 1) dX10_yieldsAct_1 kf_RX10_22 hM.s rfl hM.f0 ?_
  refine x_iload_n (pc := 4) dX10_yieldsAct_4 rfl rfl ?_
  refine x_ialdn (pc := 5) (a := b) dX10_yieldsAct_5 hM.s0 (by omega) (by omega) ?_
  rw [hA.2.1, show nI 1 = 1 from rfl]
  refine x_tsw (pc := 6) (dt := 81) [(2, 40), (3, 81), (4, 47), (5, 81), (6, 61)] dX10_yieldsAct_6 (by decide +kernel) (by decide) ?_
  refine xsw_c (fun h => absurd h (by decide)) (fun _ => ?_)
  refine xsw_c (fun h => absurd h (by decide)) (fun _ => ?_)
  refine xsw_c (fun h => absurd h (by decide)) (fun _ => ?_)
  refine xsw_c (fun h => absurd h (by decide)) (fun _ => ?_)
  refine xsw_c (fun h => absurd h (by decide)) (fun _ => ?_)
  refine xsw_n ?_
  refine x_aload_n (pc := 81) dX10_yieldsAct_81 rfl rfl ?_
  refine x_iload_n (pc := 82) dX10_yieldsAct_82 rfl rfl ?_
  refine x_iload_n (pc := 83) dX10_yieldsAct_83 rfl rfl ?_
  refine x_callV (pc := 84) (As := [.int _, .int _]) dX10_yieldsAct_84 km_X10_moveYields kv_X10_moveYields kl_RX10_392 hM.s rfl rfl (by decide) ⟨Nat.le_refl _, Nat.le_refl _⟩ rfl (Nat.le_of_ble_eq_true rfl) (Nat.le_of_ble_eq_true rfl) (m_moveYields hM hb hA (by omega) (fun J1 h1 f1 => ⟨rfl, rfl, ?_⟩))
  have g1 := f1
  refine x_ireturn (pc := 87) dX10_yieldsAct_87 ⟨_, rfl, rfl⟩ ⟨Nat.le_refl _, Nat.le_refl _⟩ ?_
  exact K _ h1 g1

set_option maxHeartbeats 4000000 in
set_option maxRecDepth 100000 in
theorem m_moveComes1 {T : xT} {n : Nat} {sh : Nat → Nat × Nat} {I : xI} {R : xR} {L : xL} {P : xPost} {M : Nat} {v b r : Nat} {f : Nat → Nat} (hM : xModel sh R M) (hb : b < 6) {x : Int32} (hA : ATM I M 1 v b r f) (hr : r + 2 ≤ 20) (K : ∀ J : xI, ATM J M 1 v b (r + 2) (apL f r [11, 10]) → amF M I J → P (n, sh, 0, 0) J R L (some (.int ((x + nI b) - nI v)))) : XM T zX10_moveComes 4 [.ref M, .int (nI b), .int x] n sh I R L P := by
  refine x_aload_n (pc := 0) dX10_moveComes_0 rfl rfl ?_
  refine x_bipush (pc := 1) (v := 11) dX10_moveComes_1 (by decide) ?_
  refine x_callV (pc := 3) (As := [.int _]) dX10_moveComes_3 km_X10_body kv_X10_body kl_RX10_389 hM.s rfl rfl (by decide) ⟨Nat.le_refl _, Nat.le_refl _⟩ rfl (Nat.le_of_ble_eq_true rfl) (Nat.le_of_ble_eq_true rfl) (m_body (x := 11) hM hA (by omega) (⟨rfl, rfl, ?_⟩))
  have h1 := hA.step (x := 11) (a := 11) rfl
  have g1 := @amF.st M r I 11 (nI (r + 1))
  refine x_aload_n (pc := 6) dX10_moveComes_6 rfl rfl ?_
  refine x_iload_n (pc := 7) dX10_moveComes_7 rfl rfl ?_
  refine x_iload_n (pc := 8) dX10_moveComes_8 rfl rfl ?_
  refine x_callV (pc := 9) (As := [.int _, .int _]) dX10_moveComes_9 km_X10_yieldsAct kv_X10_yieldsAct kl_RX10_398 hM.s rfl rfl (by decide) ⟨Nat.le_refl _, Nat.le_refl _⟩ rfl (Nat.le_of_ble_eq_true rfl) (Nat.le_of_ble_eq_true rfl) (m_yields1 hM hb h1 (by omega) (fun J2 h2 f2 => ⟨rfl, rfl, ?_⟩))
  have g2 := g1.tr f2
  refine x_aload_n (pc := 12) dX10_moveComes_12 rfl rfl ?_
  refine x_getr (pc := 13) dX10_moveComes_13 kf_RX10_26 hM.s rfl hM.f1 ?_
  refine x_iload_n (pc := 16) dX10_moveComes_16 rfl rfl ?_
  refine x_ialdn (pc := 17) (a := b) dX10_moveComes_17 hM.s1 (by omega) (by omega) ?_
  rw [show _ = nI v from h2.2.2.1]
  refine x_isub (pc := 18) dX10_moveComes_18 ?_
  refine x_ireturn (pc := 19) dX10_moveComes_19 ⟨_, rfl, rfl⟩ ⟨Nat.le_refl _, Nat.le_refl _⟩ ?_
  exact K _ h2 g2

set_option maxHeartbeats 4000000 in
set_option maxRecDepth 100000 in
theorem m_yieldingComes1 {T : xT} {n : Nat} {sh : Nat → Nat × Nat} {I : xI} {R : xR} {L : xL} {P : xPost} {M : Nat} {v b r : Nat} {f : Nat → Nat} (hM : xModel sh R M) (hb : b < 6) {x : Int32} (hA : ATM I M 1 v b r f) (hr : r + 3 ≤ 20) (K : ∀ J : xI, ATM J M 1 v b (r + 3) (apL f r [20, 11, 10]) → amF M I J → P (n, sh, 0, 0) J R L (some (.int (((x + nI b) - nI v) ^^^ 6)))) : XM T zX10_yieldingComes 5 [.ref M, .int (nI b), .int x] n sh I R L P := by
  refine x_aload_n (pc := 0) dX10_yieldingComes_0 rfl rfl ?_
  refine x_bipush (pc := 1) (v := 20) dX10_yieldingComes_1 (by decide) ?_
  refine x_callV (pc := 3) (As := [.int _]) dX10_yieldingComes_3 km_X10_body kv_X10_body kl_RX10_389 hM.s rfl rfl (by decide) ⟨Nat.le_refl _, Nat.le_refl _⟩ rfl (Nat.le_of_ble_eq_true rfl) (Nat.le_of_ble_eq_true rfl) (m_body (x := 20) hM hA (by omega) (⟨rfl, rfl, ?_⟩))
  have h1 := hA.step (x := 20) (a := 20) rfl
  have g1 := @amF.st M r I 20 (nI (r + 1))
  refine x_aload_n (pc := 6) dX10_yieldingComes_6 rfl rfl ?_
  refine x_iload_n (pc := 7) dX10_yieldingComes_7 rfl rfl ?_
  refine x_iload_n (pc := 8) dX10_yieldingComes_8 rfl rfl ?_
  refine x_callV (pc := 9) (As := [.int _, .int _]) dX10_yieldingComes_9 km_X10_moveComes kv_X10_moveComes kl_RX10_401 hM.s rfl rfl (by decide) ⟨Nat.le_refl _, Nat.le_refl _⟩ rfl (Nat.le_of_ble_eq_true rfl) (Nat.le_of_ble_eq_true rfl) (m_moveComes1 hM hb h1 (by omega) (fun J2 h2 f2 => ⟨rfl, rfl, ?_⟩))
  have g2 := g1.tr f2
  refine x_bipush (pc := 12) (v := 6) dX10_yieldingComes_12 (by decide) ?_
  refine x_ixor (pc := 14) dX10_yieldingComes_14 ?_
  refine x_ireturn (pc := 15) dX10_yieldingComes_15 ⟨_, rfl, rfl⟩ ⟨Nat.le_refl _, Nat.le_refl _⟩ ?_
  exact K _ h2 g2

set_option maxHeartbeats 4000000 in
set_option maxRecDepth 100000 in
theorem m_comes1 {T : xT} {n : Nat} {sh : Nat → Nat × Nat} {I : xI} {R : xR} {L : xL} {P : xPost} {M : Nat} {v b r : Nat} {f : Nat → Nat} (hM : xModel sh R M) (hb : b < 6) {x : Int32} (hA : ATM I M 1 v b r f) (hr : r + 3 ≤ 20) (K : ∀ J : xI, ATM J M 1 v b (r + 3) (apL f r [20, 11, 10]) → amF M I J → P (n, sh, 0, 0) J R L (some (.int (((x + nI b) - nI v) ^^^ 6)))) : XM T zX10_comesAct 6 [.ref M, .int (nI b), .int x] n sh I R L P := by
  refine x_aload_n (pc := 0) dX10_comesAct_0 rfl rfl ?_
  refine x_getr (pc := 1) dX10_comesAct_1 kf_RX10_22 hM.s rfl hM.f0 ?_
  refine x_iload_n (pc := 4) dX10_comesAct_4 rfl rfl ?_
  refine x_ialdn (pc := 5) (a := b) dX10_comesAct_5 hM.s0 (by omega) (by omega) ?_
  rw [hA.2.1, show nI 1 = 1 from rfl]
  refine x_tsw (pc := 6) (dt := 88) [(1, 44), (2, 88), (3, 88), (4, 51), (5, 44), (6, 66)] dX10_comesAct_6 (by decide +kernel) (by decide) ?_
  refine xsw_c (fun _ => ?_) (fun h => absurd rfl h)
  refine x_aload_n (pc := 44) dX10_comesAct_44 rfl rfl ?_
  refine x_iload_n (pc := 45) dX10_comesAct_45 rfl rfl ?_
  refine x_iload_n (pc := 46) dX10_comesAct_46 rfl rfl ?_
  refine x_callV (pc := 47) (As := [.int _, .int _]) dX10_comesAct_47 km_X10_yieldingComes kv_X10_yieldingComes kl_RX10_404 hM.s rfl rfl (by decide) ⟨Nat.le_refl _, Nat.le_refl _⟩ rfl (Nat.le_of_ble_eq_true rfl) (Nat.le_of_ble_eq_true rfl) (m_yieldingComes1 hM hb hA (by omega) (fun J1 h1 f1 => ⟨rfl, rfl, ?_⟩))
  have g1 := f1
  refine x_ireturn (pc := 50) dX10_comesAct_50 ⟨_, rfl, rfl⟩ ⟨Nat.le_refl _, Nat.le_refl _⟩ ?_
  exact K _ h1 g1

set_option maxHeartbeats 4000000 in
set_option maxRecDepth 100000 in
theorem m_moveTells1 {T : xT} {n : Nat} {sh : Nat → Nat × Nat} {I : xI} {R : xR} {L : xL} {P : xPost} {M : Nat} {v b r : Nat} {f : Nat → Nat} (hM : xModel sh R M) (hb : b < 6) {x : Int32} (hA : ATM I M 1 v b r f) (hr : r + 4 ≤ 20) (K : ∀ J : xI, ATM J M 1 v b (r + 4) (apL f r [12, 20, 11, 10]) → amF M I J → P (n, sh, 0, 0) J R L (some (.int ((((x + nI b) - nI v) ^^^ 6) * 2)))) : XM T zX10_moveTells 7 [.ref M, .int (nI b), .int x] n sh I R L P := by
  refine x_aload_n (pc := 0) dX10_moveTells_0 rfl rfl ?_
  refine x_bipush (pc := 1) (v := 12) dX10_moveTells_1 (by decide) ?_
  refine x_callV (pc := 3) (As := [.int _]) dX10_moveTells_3 km_X10_body kv_X10_body kl_RX10_389 hM.s rfl rfl (by decide) ⟨Nat.le_refl _, Nat.le_refl _⟩ rfl (Nat.le_of_ble_eq_true rfl) (Nat.le_of_ble_eq_true rfl) (m_body (x := 12) hM hA (by omega) (⟨rfl, rfl, ?_⟩))
  have h1 := hA.step (x := 12) (a := 12) rfl
  have g1 := @amF.st M r I 12 (nI (r + 1))
  refine x_aload_n (pc := 6) dX10_moveTells_6 rfl rfl ?_
  refine x_iload_n (pc := 7) dX10_moveTells_7 rfl rfl ?_
  refine x_iload_n (pc := 8) dX10_moveTells_8 rfl rfl ?_
  refine x_callV (pc := 9) (As := [.int _, .int _]) dX10_moveTells_9 km_X10_comesAct kv_X10_comesAct kl_RX10_407 hM.s rfl rfl (by decide) ⟨Nat.le_refl _, Nat.le_refl _⟩ rfl (Nat.le_of_ble_eq_true rfl) (Nat.le_of_ble_eq_true rfl) (m_comes1 hM hb h1 (by omega) (fun J2 h2 f2 => ⟨rfl, rfl, ?_⟩))
  have g2 := g1.tr f2
  refine x_iconst (pc := 12) (v := 2) dX10_moveTells_12 (by decide) ?_
  refine x_imul (pc := 13) dX10_moveTells_13 ?_
  refine x_ireturn (pc := 14) dX10_moveTells_14 ⟨_, rfl, rfl⟩ ⟨Nat.le_refl _, Nat.le_refl _⟩ ?_
  exact K _ h2 g2

set_option maxHeartbeats 4000000 in
set_option maxRecDepth 100000 in
theorem m_tells1 {T : xT} {n : Nat} {sh : Nat → Nat × Nat} {I : xI} {R : xR} {L : xL} {P : xPost} {M : Nat} {v b r : Nat} {f : Nat → Nat} (hM : xModel sh R M) (hb : b < 6) {x : Int32} (hA : ATM I M 1 v b r f) (hr : r + 4 ≤ 20) (K : ∀ J : xI, ATM J M 1 v b (r + 4) (apL f r [12, 20, 11, 10]) → amF M I J → P (n, sh, 0, 0) J R L (some (.int ((((x + nI b) - nI v) ^^^ 6) * 2)))) : XM T zX10_tellsAct 8 [.ref M, .int (nI b), .int x] n sh I R L P := by
  refine x_aload_n (pc := 0) dX10_tellsAct_0 rfl rfl ?_
  refine x_getr (pc := 1) dX10_tellsAct_1 kf_RX10_22 hM.s rfl hM.f0 ?_
  refine x_iload_n (pc := 4) dX10_tellsAct_4 rfl rfl ?_
  refine x_ialdn (pc := 5) (a := b) dX10_tellsAct_5 hM.s0 (by omega) (by omega) ?_
  rw [hA.2.1, show nI 1 = 1 from rfl]
  refine x_lsw (pc := 6) (dt := 69) [(3, 32), (5, 54)] dX10_tellsAct_6 (by decide +kernel) (by decide +kernel) (by decide) ?_
  refine xsw_c (fun h => absurd h (by decide)) (fun _ => ?_)
  refine xsw_c (fun h => absurd h (by decide)) (fun _ => ?_)
  refine xsw_n ?_
  refine x_aload_n (pc := 69) dX10_tellsAct_69 rfl rfl ?_
  refine x_iload_n (pc := 70) dX10_tellsAct_70 rfl rfl ?_
  refine x_iload_n (pc := 71) dX10_tellsAct_71 rfl rfl ?_
  refine x_callV (pc := 72) (As := [.int _, .int _]) dX10_tellsAct_72 km_X10_moveTells kv_X10_moveTells kl_RX10_410 hM.s rfl rfl (by decide) ⟨Nat.le_refl _, Nat.le_refl _⟩ rfl (Nat.le_of_ble_eq_true rfl) (Nat.le_of_ble_eq_true rfl) (m_moveTells1 hM hb hA (by omega) (fun J1 h1 f1 => ⟨rfl, rfl, ?_⟩))
  have g1 := f1
  refine x_ireturn (pc := 75) dX10_tellsAct_75 ⟨_, rfl, rfl⟩ ⟨Nat.le_refl _, Nat.le_refl _⟩ ?_
  exact K _ h1 g1

set_option maxHeartbeats 4000000 in
set_option maxRecDepth 100000 in
theorem m_yields2 {T : xT} {n : Nat} {sh : Nat → Nat × Nat} {I : xI} {R : xR} {L : xL} {P : xPost} {M : Nat} {v b r : Nat} {f : Nat → Nat} (hM : xModel sh R M) (hb : b < 6) {x : Int32} (hA : ATM I M 2 v b r f) (hr : r + 2 ≤ 20) (K : ∀ J : xI, ATM J M 2 v b (r + 2) (apL f r [30, 10]) → amF M I J → P (n, sh, 0, 0) J R L (some (.int ((x * 3) + nI b)))) : XM T zX10_yieldsAct 3 [.ref M, .int (nI b), .int x] n sh I R L P := by
  refine x_aload_n (pc := 0) dX10_yieldsAct_0 rfl rfl ?_
  refine x_getr (pc := 1) dX10_yieldsAct_1 kf_RX10_22 hM.s rfl hM.f0 ?_
  refine x_iload_n (pc := 4) dX10_yieldsAct_4 rfl rfl ?_
  refine x_ialdn (pc := 5) (a := b) dX10_yieldsAct_5 hM.s0 (by omega) (by omega) ?_
  rw [hA.2.1, show nI 2 = 2 from rfl]
  refine x_tsw (pc := 6) (dt := 81) [(2, 40), (3, 81), (4, 47), (5, 81), (6, 61)] dX10_yieldsAct_6 (by decide +kernel) (by decide) ?_
  refine xsw_c (fun _ => ?_) (fun h => absurd rfl h)
  refine x_aload_n (pc := 40) dX10_yieldsAct_40 rfl rfl ?_
  refine x_iload_n (pc := 41) dX10_yieldsAct_41 rfl rfl ?_
  refine x_iload_n (pc := 42) dX10_yieldsAct_42 rfl rfl ?_
  refine x_callV (pc := 43) (As := [.int _, .int _]) dX10_yieldsAct_43 km_X10_comingYields kv_X10_comingYields kl_RX10_395 hM.s rfl rfl (by decide) ⟨Nat.le_refl _, Nat.le_refl _⟩ rfl (Nat.le_of_ble_eq_true rfl) (Nat.le_of_ble_eq_true rfl) (m_comingYields hM hb hA (by omega) (fun J1 h1 f1 => ⟨rfl, rfl, ?_⟩))
  have g1 := f1
  refine x_ireturn (pc := 46) dX10_yieldsAct_46 ⟨_, rfl, rfl⟩ ⟨Nat.le_refl _, Nat.le_refl _⟩ ?_
  exact K _ h1 g1

set_option maxHeartbeats 4000000 in
set_option maxRecDepth 100000 in
theorem m_moveComes2 {T : xT} {n : Nat} {sh : Nat → Nat × Nat} {I : xI} {R : xR} {L : xL} {P : xPost} {M : Nat} {v b r : Nat} {f : Nat → Nat} (hM : xModel sh R M) (hb : b < 6) {x : Int32} (hA : ATM I M 2 v b r f) (hr : r + 3 ≤ 20) (K : ∀ J : xI, ATM J M 2 v b (r + 3) (apL f r [11, 30, 10]) → amF M I J → P (n, sh, 0, 0) J R L (some (.int (((x * 3) + nI b) - nI v)))) : XM T zX10_moveComes 4 [.ref M, .int (nI b), .int x] n sh I R L P := by
  refine x_aload_n (pc := 0) dX10_moveComes_0 rfl rfl ?_
  refine x_bipush (pc := 1) (v := 11) dX10_moveComes_1 (by decide) ?_
  refine x_callV (pc := 3) (As := [.int _]) dX10_moveComes_3 km_X10_body kv_X10_body kl_RX10_389 hM.s rfl rfl (by decide) ⟨Nat.le_refl _, Nat.le_refl _⟩ rfl (Nat.le_of_ble_eq_true rfl) (Nat.le_of_ble_eq_true rfl) (m_body (x := 11) hM hA (by omega) (⟨rfl, rfl, ?_⟩))
  have h1 := hA.step (x := 11) (a := 11) rfl
  have g1 := @amF.st M r I 11 (nI (r + 1))
  refine x_aload_n (pc := 6) dX10_moveComes_6 rfl rfl ?_
  refine x_iload_n (pc := 7) dX10_moveComes_7 rfl rfl ?_
  refine x_iload_n (pc := 8) dX10_moveComes_8 rfl rfl ?_
  refine x_callV (pc := 9) (As := [.int _, .int _]) dX10_moveComes_9 km_X10_yieldsAct kv_X10_yieldsAct kl_RX10_398 hM.s rfl rfl (by decide) ⟨Nat.le_refl _, Nat.le_refl _⟩ rfl (Nat.le_of_ble_eq_true rfl) (Nat.le_of_ble_eq_true rfl) (m_yields2 hM hb h1 (by omega) (fun J2 h2 f2 => ⟨rfl, rfl, ?_⟩))
  have g2 := g1.tr f2
  refine x_aload_n (pc := 12) dX10_moveComes_12 rfl rfl ?_
  refine x_getr (pc := 13) dX10_moveComes_13 kf_RX10_26 hM.s rfl hM.f1 ?_
  refine x_iload_n (pc := 16) dX10_moveComes_16 rfl rfl ?_
  refine x_ialdn (pc := 17) (a := b) dX10_moveComes_17 hM.s1 (by omega) (by omega) ?_
  rw [show _ = nI v from h2.2.2.1]
  refine x_isub (pc := 18) dX10_moveComes_18 ?_
  refine x_ireturn (pc := 19) dX10_moveComes_19 ⟨_, rfl, rfl⟩ ⟨Nat.le_refl _, Nat.le_refl _⟩ ?_
  exact K _ h2 g2

set_option maxHeartbeats 4000000 in
set_option maxRecDepth 100000 in
theorem m_yieldingComes2 {T : xT} {n : Nat} {sh : Nat → Nat × Nat} {I : xI} {R : xR} {L : xL} {P : xPost} {M : Nat} {v b r : Nat} {f : Nat → Nat} (hM : xModel sh R M) (hb : b < 6) {x : Int32} (hA : ATM I M 2 v b r f) (hr : r + 4 ≤ 20) (K : ∀ J : xI, ATM J M 2 v b (r + 4) (apL f r [20, 11, 30, 10]) → amF M I J → P (n, sh, 0, 0) J R L (some (.int ((((x * 3) + nI b) - nI v) ^^^ 6)))) : XM T zX10_yieldingComes 5 [.ref M, .int (nI b), .int x] n sh I R L P := by
  refine x_aload_n (pc := 0) dX10_yieldingComes_0 rfl rfl ?_
  refine x_bipush (pc := 1) (v := 20) dX10_yieldingComes_1 (by decide) ?_
  refine x_callV (pc := 3) (As := [.int _]) dX10_yieldingComes_3 km_X10_body kv_X10_body kl_RX10_389 hM.s rfl rfl (by decide) ⟨Nat.le_refl _, Nat.le_refl _⟩ rfl (Nat.le_of_ble_eq_true rfl) (Nat.le_of_ble_eq_true rfl) (m_body (x := 20) hM hA (by omega) (⟨rfl, rfl, ?_⟩))
  have h1 := hA.step (x := 20) (a := 20) rfl
  have g1 := @amF.st M r I 20 (nI (r + 1))
  refine x_aload_n (pc := 6) dX10_yieldingComes_6 rfl rfl ?_
  refine x_iload_n (pc := 7) dX10_yieldingComes_7 rfl rfl ?_
  refine x_iload_n (pc := 8) dX10_yieldingComes_8 rfl rfl ?_
  refine x_callV (pc := 9) (As := [.int _, .int _]) dX10_yieldingComes_9 km_X10_moveComes kv_X10_moveComes kl_RX10_401 hM.s rfl rfl (by decide) ⟨Nat.le_refl _, Nat.le_refl _⟩ rfl (Nat.le_of_ble_eq_true rfl) (Nat.le_of_ble_eq_true rfl) (m_moveComes2 hM hb h1 (by omega) (fun J2 h2 f2 => ⟨rfl, rfl, ?_⟩))
  have g2 := g1.tr f2
  refine x_bipush (pc := 12) (v := 6) dX10_yieldingComes_12 (by decide) ?_
  refine x_ixor (pc := 14) dX10_yieldingComes_14 ?_
  refine x_ireturn (pc := 15) dX10_yieldingComes_15 ⟨_, rfl, rfl⟩ ⟨Nat.le_refl _, Nat.le_refl _⟩ ?_
  exact K _ h2 g2

set_option maxHeartbeats 4000000 in
set_option maxRecDepth 100000 in
theorem m_comes2 {T : xT} {n : Nat} {sh : Nat → Nat × Nat} {I : xI} {R : xR} {L : xL} {P : xPost} {M : Nat} {v b r : Nat} {f : Nat → Nat} (hM : xModel sh R M) (hb : b < 6) {x : Int32} (hA : ATM I M 2 v b r f) (hr : r + 3 ≤ 20) (K : ∀ J : xI, ATM J M 2 v b (r + 3) (apL f r [11, 30, 10]) → amF M I J → P (n, sh, 0, 0) J R L (some (.int (((x * 3) + nI b) - nI v)))) : XM T zX10_comesAct 6 [.ref M, .int (nI b), .int x] n sh I R L P := by
  refine x_aload_n (pc := 0) dX10_comesAct_0 rfl rfl ?_
  refine x_getr (pc := 1) dX10_comesAct_1 kf_RX10_22 hM.s rfl hM.f0 ?_
  refine x_iload_n (pc := 4) dX10_comesAct_4 rfl rfl ?_
  refine x_ialdn (pc := 5) (a := b) dX10_comesAct_5 hM.s0 (by omega) (by omega) ?_
  rw [hA.2.1, show nI 2 = 2 from rfl]
  refine x_tsw (pc := 6) (dt := 88) [(1, 44), (2, 88), (3, 88), (4, 51), (5, 44), (6, 66)] dX10_comesAct_6 (by decide +kernel) (by decide) ?_
  refine xsw_c (fun h => absurd h (by decide)) (fun _ => ?_)
  refine xsw_c (fun _ => ?_) (fun h => absurd rfl h)
  refine x_aload_n (pc := 88) dX10_comesAct_88 rfl rfl ?_
  refine x_iload_n (pc := 89) dX10_comesAct_89 rfl rfl ?_
  refine x_iload_n (pc := 90) dX10_comesAct_90 rfl rfl ?_
  refine x_callV (pc := 91) (As := [.int _, .int _]) dX10_comesAct_91 km_X10_moveComes kv_X10_moveComes kl_RX10_401 hM.s rfl rfl (by decide) ⟨Nat.le_refl _, Nat.le_refl _⟩ rfl (Nat.le_of_ble_eq_true rfl) (Nat.le_of_ble_eq_true rfl) (m_moveComes2 hM hb hA (by omega) (fun J1 h1 f1 => ⟨rfl, rfl, ?_⟩))
  have g1 := f1
  refine x_ireturn (pc := 94) dX10_comesAct_94 ⟨_, rfl, rfl⟩ ⟨Nat.le_refl _, Nat.le_refl _⟩ ?_
  exact K _ h1 g1

set_option maxHeartbeats 4000000 in
set_option maxRecDepth 100000 in
theorem m_moveTells2 {T : xT} {n : Nat} {sh : Nat → Nat × Nat} {I : xI} {R : xR} {L : xL} {P : xPost} {M : Nat} {v b r : Nat} {f : Nat → Nat} (hM : xModel sh R M) (hb : b < 6) {x : Int32} (hA : ATM I M 2 v b r f) (hr : r + 4 ≤ 20) (K : ∀ J : xI, ATM J M 2 v b (r + 4) (apL f r [12, 11, 30, 10]) → amF M I J → P (n, sh, 0, 0) J R L (some (.int ((((x * 3) + nI b) - nI v) * 2)))) : XM T zX10_moveTells 7 [.ref M, .int (nI b), .int x] n sh I R L P := by
  refine x_aload_n (pc := 0) dX10_moveTells_0 rfl rfl ?_
  refine x_bipush (pc := 1) (v := 12) dX10_moveTells_1 (by decide) ?_
  refine x_callV (pc := 3) (As := [.int _]) dX10_moveTells_3 km_X10_body kv_X10_body kl_RX10_389 hM.s rfl rfl (by decide) ⟨Nat.le_refl _, Nat.le_refl _⟩ rfl (Nat.le_of_ble_eq_true rfl) (Nat.le_of_ble_eq_true rfl) (m_body (x := 12) hM hA (by omega) (⟨rfl, rfl, ?_⟩))
  have h1 := hA.step (x := 12) (a := 12) rfl
  have g1 := @amF.st M r I 12 (nI (r + 1))
  refine x_aload_n (pc := 6) dX10_moveTells_6 rfl rfl ?_
  refine x_iload_n (pc := 7) dX10_moveTells_7 rfl rfl ?_
  refine x_iload_n (pc := 8) dX10_moveTells_8 rfl rfl ?_
  refine x_callV (pc := 9) (As := [.int _, .int _]) dX10_moveTells_9 km_X10_comesAct kv_X10_comesAct kl_RX10_407 hM.s rfl rfl (by decide) ⟨Nat.le_refl _, Nat.le_refl _⟩ rfl (Nat.le_of_ble_eq_true rfl) (Nat.le_of_ble_eq_true rfl) (m_comes2 hM hb h1 (by omega) (fun J2 h2 f2 => ⟨rfl, rfl, ?_⟩))
  have g2 := g1.tr f2
  refine x_iconst (pc := 12) (v := 2) dX10_moveTells_12 (by decide) ?_
  refine x_imul (pc := 13) dX10_moveTells_13 ?_
  refine x_ireturn (pc := 14) dX10_moveTells_14 ⟨_, rfl, rfl⟩ ⟨Nat.le_refl _, Nat.le_refl _⟩ ?_
  exact K _ h2 g2

set_option maxHeartbeats 4000000 in
set_option maxRecDepth 100000 in
theorem m_tells2 {T : xT} {n : Nat} {sh : Nat → Nat × Nat} {I : xI} {R : xR} {L : xL} {P : xPost} {M : Nat} {v b r : Nat} {f : Nat → Nat} (hM : xModel sh R M) (hb : b < 6) {x : Int32} (hA : ATM I M 2 v b r f) (hr : r + 4 ≤ 20) (K : ∀ J : xI, ATM J M 2 v b (r + 4) (apL f r [12, 11, 30, 10]) → amF M I J → P (n, sh, 0, 0) J R L (some (.int ((((x * 3) + nI b) - nI v) * 2)))) : XM T zX10_tellsAct 8 [.ref M, .int (nI b), .int x] n sh I R L P := by
  refine x_aload_n (pc := 0) dX10_tellsAct_0 rfl rfl ?_
  refine x_getr (pc := 1) dX10_tellsAct_1 kf_RX10_22 hM.s rfl hM.f0 ?_
  refine x_iload_n (pc := 4) dX10_tellsAct_4 rfl rfl ?_
  refine x_ialdn (pc := 5) (a := b) dX10_tellsAct_5 hM.s0 (by omega) (by omega) ?_
  rw [hA.2.1, show nI 2 = 2 from rfl]
  refine x_lsw (pc := 6) (dt := 69) [(3, 32), (5, 54)] dX10_tellsAct_6 (by decide +kernel) (by decide +kernel) (by decide) ?_
  refine xsw_c (fun h => absurd h (by decide)) (fun _ => ?_)
  refine xsw_c (fun h => absurd h (by decide)) (fun _ => ?_)
  refine xsw_n ?_
  refine x_aload_n (pc := 69) dX10_tellsAct_69 rfl rfl ?_
  refine x_iload_n (pc := 70) dX10_tellsAct_70 rfl rfl ?_
  refine x_iload_n (pc := 71) dX10_tellsAct_71 rfl rfl ?_
  refine x_callV (pc := 72) (As := [.int _, .int _]) dX10_tellsAct_72 km_X10_moveTells kv_X10_moveTells kl_RX10_410 hM.s rfl rfl (by decide) ⟨Nat.le_refl _, Nat.le_refl _⟩ rfl (Nat.le_of_ble_eq_true rfl) (Nat.le_of_ble_eq_true rfl) (m_moveTells2 hM hb hA (by omega) (fun J1 h1 f1 => ⟨rfl, rfl, ?_⟩))
  have g1 := f1
  refine x_ireturn (pc := 75) dX10_tellsAct_75 ⟨_, rfl, rfl⟩ ⟨Nat.le_refl _, Nat.le_refl _⟩ ?_
  exact K _ h1 g1

set_option maxHeartbeats 4000000 in
set_option maxRecDepth 100000 in
theorem m_yields3 {T : xT} {n : Nat} {sh : Nat → Nat × Nat} {I : xI} {R : xR} {L : xL} {P : xPost} {M : Nat} {v b r : Nat} {f : Nat → Nat} (hM : xModel sh R M) (hb : b < 6) {x : Int32} (hA : ATM I M 3 v b r f) (hr : r + 1 ≤ 20) (K : ∀ J : xI, ATM J M 3 v b (r + 1) (apL f r [10]) → amF M I J → P (n, sh, 0, 0) J R L (some (.int (x + nI b)))) : XM T zX10_yieldsAct 3 [.ref M, .int (nI b), .int x] n sh I R L P := by
  refine x_aload_n (pc := 0) dX10_yieldsAct_0 rfl rfl ?_
  refine x_getr (pc := 1) dX10_yieldsAct_1 kf_RX10_22 hM.s rfl hM.f0 ?_
  refine x_iload_n (pc := 4) dX10_yieldsAct_4 rfl rfl ?_
  refine x_ialdn (pc := 5) (a := b) dX10_yieldsAct_5 hM.s0 (by omega) (by omega) ?_
  rw [hA.2.1, show nI 3 = 3 from rfl]
  refine x_tsw (pc := 6) (dt := 81) [(2, 40), (3, 81), (4, 47), (5, 81), (6, 61)] dX10_yieldsAct_6 (by decide +kernel) (by decide) ?_
  refine xsw_c (fun h => absurd h (by decide)) (fun _ => ?_)
  refine xsw_c (fun _ => ?_) (fun h => absurd rfl h)
  refine x_aload_n (pc := 81) dX10_yieldsAct_81 rfl rfl ?_
  refine x_iload_n (pc := 82) dX10_yieldsAct_82 rfl rfl ?_
  refine x_iload_n (pc := 83) dX10_yieldsAct_83 rfl rfl ?_
  refine x_callV (pc := 84) (As := [.int _, .int _]) dX10_yieldsAct_84 km_X10_moveYields kv_X10_moveYields kl_RX10_392 hM.s rfl rfl (by decide) ⟨Nat.le_refl _, Nat.le_refl _⟩ rfl (Nat.le_of_ble_eq_true rfl) (Nat.le_of_ble_eq_true rfl) (m_moveYields hM hb hA (by omega) (fun J1 h1 f1 => ⟨rfl, rfl, ?_⟩))
  have g1 := f1
  refine x_ireturn (pc := 87) dX10_yieldsAct_87 ⟨_, rfl, rfl⟩ ⟨Nat.le_refl _, Nat.le_refl _⟩ ?_
  exact K _ h1 g1

set_option maxHeartbeats 4000000 in
set_option maxRecDepth 100000 in
theorem m_moveComes3 {T : xT} {n : Nat} {sh : Nat → Nat × Nat} {I : xI} {R : xR} {L : xL} {P : xPost} {M : Nat} {v b r : Nat} {f : Nat → Nat} (hM : xModel sh R M) (hb : b < 6) {x : Int32} (hA : ATM I M 3 v b r f) (hr : r + 2 ≤ 20) (K : ∀ J : xI, ATM J M 3 v b (r + 2) (apL f r [11, 10]) → amF M I J → P (n, sh, 0, 0) J R L (some (.int ((x + nI b) - nI v)))) : XM T zX10_moveComes 4 [.ref M, .int (nI b), .int x] n sh I R L P := by
  refine x_aload_n (pc := 0) dX10_moveComes_0 rfl rfl ?_
  refine x_bipush (pc := 1) (v := 11) dX10_moveComes_1 (by decide) ?_
  refine x_callV (pc := 3) (As := [.int _]) dX10_moveComes_3 km_X10_body kv_X10_body kl_RX10_389 hM.s rfl rfl (by decide) ⟨Nat.le_refl _, Nat.le_refl _⟩ rfl (Nat.le_of_ble_eq_true rfl) (Nat.le_of_ble_eq_true rfl) (m_body (x := 11) hM hA (by omega) (⟨rfl, rfl, ?_⟩))
  have h1 := hA.step (x := 11) (a := 11) rfl
  have g1 := @amF.st M r I 11 (nI (r + 1))
  refine x_aload_n (pc := 6) dX10_moveComes_6 rfl rfl ?_
  refine x_iload_n (pc := 7) dX10_moveComes_7 rfl rfl ?_
  refine x_iload_n (pc := 8) dX10_moveComes_8 rfl rfl ?_
  refine x_callV (pc := 9) (As := [.int _, .int _]) dX10_moveComes_9 km_X10_yieldsAct kv_X10_yieldsAct kl_RX10_398 hM.s rfl rfl (by decide) ⟨Nat.le_refl _, Nat.le_refl _⟩ rfl (Nat.le_of_ble_eq_true rfl) (Nat.le_of_ble_eq_true rfl) (m_yields3 hM hb h1 (by omega) (fun J2 h2 f2 => ⟨rfl, rfl, ?_⟩))
  have g2 := g1.tr f2
  refine x_aload_n (pc := 12) dX10_moveComes_12 rfl rfl ?_
  refine x_getr (pc := 13) dX10_moveComes_13 kf_RX10_26 hM.s rfl hM.f1 ?_
  refine x_iload_n (pc := 16) dX10_moveComes_16 rfl rfl ?_
  refine x_ialdn (pc := 17) (a := b) dX10_moveComes_17 hM.s1 (by omega) (by omega) ?_
  rw [show _ = nI v from h2.2.2.1]
  refine x_isub (pc := 18) dX10_moveComes_18 ?_
  refine x_ireturn (pc := 19) dX10_moveComes_19 ⟨_, rfl, rfl⟩ ⟨Nat.le_refl _, Nat.le_refl _⟩ ?_
  exact K _ h2 g2

set_option maxHeartbeats 4000000 in
set_option maxRecDepth 100000 in
theorem m_yieldingComes3 {T : xT} {n : Nat} {sh : Nat → Nat × Nat} {I : xI} {R : xR} {L : xL} {P : xPost} {M : Nat} {v b r : Nat} {f : Nat → Nat} (hM : xModel sh R M) (hb : b < 6) {x : Int32} (hA : ATM I M 3 v b r f) (hr : r + 3 ≤ 20) (K : ∀ J : xI, ATM J M 3 v b (r + 3) (apL f r [20, 11, 10]) → amF M I J → P (n, sh, 0, 0) J R L (some (.int (((x + nI b) - nI v) ^^^ 6)))) : XM T zX10_yieldingComes 5 [.ref M, .int (nI b), .int x] n sh I R L P := by
  refine x_aload_n (pc := 0) dX10_yieldingComes_0 rfl rfl ?_
  refine x_bipush (pc := 1) (v := 20) dX10_yieldingComes_1 (by decide) ?_
  refine x_callV (pc := 3) (As := [.int _]) dX10_yieldingComes_3 km_X10_body kv_X10_body kl_RX10_389 hM.s rfl rfl (by decide) ⟨Nat.le_refl _, Nat.le_refl _⟩ rfl (Nat.le_of_ble_eq_true rfl) (Nat.le_of_ble_eq_true rfl) (m_body (x := 20) hM hA (by omega) (⟨rfl, rfl, ?_⟩))
  have h1 := hA.step (x := 20) (a := 20) rfl
  have g1 := @amF.st M r I 20 (nI (r + 1))
  refine x_aload_n (pc := 6) dX10_yieldingComes_6 rfl rfl ?_
  refine x_iload_n (pc := 7) dX10_yieldingComes_7 rfl rfl ?_
  refine x_iload_n (pc := 8) dX10_yieldingComes_8 rfl rfl ?_
  refine x_callV (pc := 9) (As := [.int _, .int _]) dX10_yieldingComes_9 km_X10_moveComes kv_X10_moveComes kl_RX10_401 hM.s rfl rfl (by decide) ⟨Nat.le_refl _, Nat.le_refl _⟩ rfl (Nat.le_of_ble_eq_true rfl) (Nat.le_of_ble_eq_true rfl) (m_moveComes3 hM hb h1 (by omega) (fun J2 h2 f2 => ⟨rfl, rfl, ?_⟩))
  have g2 := g1.tr f2
  refine x_bipush (pc := 12) (v := 6) dX10_yieldingComes_12 (by decide) ?_
  refine x_ixor (pc := 14) dX10_yieldingComes_14 ?_
  refine x_ireturn (pc := 15) dX10_yieldingComes_15 ⟨_, rfl, rfl⟩ ⟨Nat.le_refl _, Nat.le_refl _⟩ ?_
  exact K _ h2 g2

set_option maxHeartbeats 4000000 in
set_option maxRecDepth 100000 in
theorem m_comes3 {T : xT} {n : Nat} {sh : Nat → Nat × Nat} {I : xI} {R : xR} {L : xL} {P : xPost} {M : Nat} {v b r : Nat} {f : Nat → Nat} (hM : xModel sh R M) (hb : b < 6) {x : Int32} (hA : ATM I M 3 v b r f) (hr : r + 2 ≤ 20) (K : ∀ J : xI, ATM J M 3 v b (r + 2) (apL f r [11, 10]) → amF M I J → P (n, sh, 0, 0) J R L (some (.int ((x + nI b) - nI v)))) : XM T zX10_comesAct 6 [.ref M, .int (nI b), .int x] n sh I R L P := by
  refine x_aload_n (pc := 0) dX10_comesAct_0 rfl rfl ?_
  refine x_getr (pc := 1) dX10_comesAct_1 kf_RX10_22 hM.s rfl hM.f0 ?_
  refine x_iload_n (pc := 4) dX10_comesAct_4 rfl rfl ?_
  refine x_ialdn (pc := 5) (a := b) dX10_comesAct_5 hM.s0 (by omega) (by omega) ?_
  rw [hA.2.1, show nI 3 = 3 from rfl]
  refine x_tsw (pc := 6) (dt := 88) [(1, 44), (2, 88), (3, 88), (4, 51), (5, 44), (6, 66)] dX10_comesAct_6 (by decide +kernel) (by decide) ?_
  refine xsw_c (fun h => absurd h (by decide)) (fun _ => ?_)
  refine xsw_c (fun h => absurd h (by decide)) (fun _ => ?_)
  refine xsw_c (fun _ => ?_) (fun h => absurd rfl h)
  refine x_aload_n (pc := 88) dX10_comesAct_88 rfl rfl ?_
  refine x_iload_n (pc := 89) dX10_comesAct_89 rfl rfl ?_
  refine x_iload_n (pc := 90) dX10_comesAct_90 rfl rfl ?_
  refine x_callV (pc := 91) (As := [.int _, .int _]) dX10_comesAct_91 km_X10_moveComes kv_X10_moveComes kl_RX10_401 hM.s rfl rfl (by decide) ⟨Nat.le_refl _, Nat.le_refl _⟩ rfl (Nat.le_of_ble_eq_true rfl) (Nat.le_of_ble_eq_true rfl) (m_moveComes3 hM hb hA (by omega) (fun J1 h1 f1 => ⟨rfl, rfl, ?_⟩))
  have g1 := f1
  refine x_ireturn (pc := 94) dX10_comesAct_94 ⟨_, rfl, rfl⟩ ⟨Nat.le_refl _, Nat.le_refl _⟩ ?_
  exact K _ h1 g1

set_option maxHeartbeats 4000000 in
set_option maxRecDepth 100000 in
theorem m_moveTells3 {T : xT} {n : Nat} {sh : Nat → Nat × Nat} {I : xI} {R : xR} {L : xL} {P : xPost} {M : Nat} {v b r : Nat} {f : Nat → Nat} (hM : xModel sh R M) (hb : b < 6) {x : Int32} (hA : ATM I M 3 v b r f) (hr : r + 3 ≤ 20) (K : ∀ J : xI, ATM J M 3 v b (r + 3) (apL f r [12, 11, 10]) → amF M I J → P (n, sh, 0, 0) J R L (some (.int (((x + nI b) - nI v) * 2)))) : XM T zX10_moveTells 7 [.ref M, .int (nI b), .int x] n sh I R L P := by
  refine x_aload_n (pc := 0) dX10_moveTells_0 rfl rfl ?_
  refine x_bipush (pc := 1) (v := 12) dX10_moveTells_1 (by decide) ?_
  refine x_callV (pc := 3) (As := [.int _]) dX10_moveTells_3 km_X10_body kv_X10_body kl_RX10_389 hM.s rfl rfl (by decide) ⟨Nat.le_refl _, Nat.le_refl _⟩ rfl (Nat.le_of_ble_eq_true rfl) (Nat.le_of_ble_eq_true rfl) (m_body (x := 12) hM hA (by omega) (⟨rfl, rfl, ?_⟩))
  have h1 := hA.step (x := 12) (a := 12) rfl
  have g1 := @amF.st M r I 12 (nI (r + 1))
  refine x_aload_n (pc := 6) dX10_moveTells_6 rfl rfl ?_
  refine x_iload_n (pc := 7) dX10_moveTells_7 rfl rfl ?_
  refine x_iload_n (pc := 8) dX10_moveTells_8 rfl rfl ?_
  refine x_callV (pc := 9) (As := [.int _, .int _]) dX10_moveTells_9 km_X10_comesAct kv_X10_comesAct kl_RX10_407 hM.s rfl rfl (by decide) ⟨Nat.le_refl _, Nat.le_refl _⟩ rfl (Nat.le_of_ble_eq_true rfl) (Nat.le_of_ble_eq_true rfl) (m_comes3 hM hb h1 (by omega) (fun J2 h2 f2 => ⟨rfl, rfl, ?_⟩))
  have g2 := g1.tr f2
  refine x_iconst (pc := 12) (v := 2) dX10_moveTells_12 (by decide) ?_
  refine x_imul (pc := 13) dX10_moveTells_13 ?_
  refine x_ireturn (pc := 14) dX10_moveTells_14 ⟨_, rfl, rfl⟩ ⟨Nat.le_refl _, Nat.le_refl _⟩ ?_
  exact K _ h2 g2

set_option maxHeartbeats 4000000 in
set_option maxRecDepth 100000 in
theorem m_tells3 {T : xT} {n : Nat} {sh : Nat → Nat × Nat} {I : xI} {R : xR} {L : xL} {P : xPost} {M : Nat} {v b r : Nat} {f : Nat → Nat} (hM : xModel sh R M) (hb : b < 6) {x : Int32} (hA : ATM I M 3 v b r f) (hr : r + 6 ≤ 20) (K : ∀ J : xI, ATM J M 3 v b (r + 6) (apL f r [40, 12, 11, 10, 11, 10]) → amF M I J → P (n, sh, 0, 0) J R L (some (.int ((((x + nI b) - nI v) * 2) + ((1 + nI b) - nI v))))) : XM T zX10_tellsAct 8 [.ref M, .int (nI b), .int x] n sh I R L P := by
  refine x_aload_n (pc := 0) dX10_tellsAct_0 rfl rfl ?_
  refine x_getr (pc := 1) dX10_tellsAct_1 kf_RX10_22 hM.s rfl hM.f0 ?_
  refine x_iload_n (pc := 4) dX10_tellsAct_4 rfl rfl ?_
  refine x_ialdn (pc := 5) (a := b) dX10_tellsAct_5 hM.s0 (by omega) (by omega) ?_
  rw [hA.2.1, show nI 3 = 3 from rfl]
  refine x_lsw (pc := 6) (dt := 69) [(3, 32), (5, 54)] dX10_tellsAct_6 (by decide +kernel) (by decide +kernel) (by decide) ?_
  refine xsw_c (fun _ => ?_) (fun h => absurd rfl h)
  refine x_aload_n (pc := 32) dX10_tellsAct_32 rfl rfl ?_
  refine x_bipush (pc := 33) (v := 40) dX10_tellsAct_33 (by decide) ?_
  refine x_callV (pc := 35) (As := [.int _]) dX10_tellsAct_35 km_X10_body kv_X10_body kl_RX10_389 hM.s rfl rfl (by decide) ⟨Nat.le_refl _, Nat.le_refl _⟩ rfl (Nat.le_of_ble_eq_true rfl) (Nat.le_of_ble_eq_true rfl) (m_body (x := 40) hM hA (by omega) (⟨rfl, rfl, ?_⟩))
  have h1 := hA.step (x := 40) (a := 40) rfl
  have g1 := @amF.st M r I 40 (nI (r + 1))
  refine x_aload_n (pc := 38) dX10_tellsAct_38 rfl rfl ?_
  refine x_iload_n (pc := 39) dX10_tellsAct_39 rfl rfl ?_
  refine x_iload_n (pc := 40) dX10_tellsAct_40 rfl rfl ?_
  refine x_callV (pc := 41) (As := [.int _, .int _]) dX10_tellsAct_41 km_X10_moveTells kv_X10_moveTells kl_RX10_410 hM.s rfl rfl (by decide) ⟨Nat.le_refl _, Nat.le_refl _⟩ rfl (Nat.le_of_ble_eq_true rfl) (Nat.le_of_ble_eq_true rfl) (m_moveTells3 hM hb h1 (by omega) (fun J2 h2 f2 => ⟨rfl, rfl, ?_⟩))
  have g2 := g1.tr f2
  refine x_istore_n (pc := 44) (lv' := [(0, .ref M), (1, .int (nI b)), (2, .int x), (3, .int (((x + nI b) - nI v) * 2))]) dX10_tellsAct_44 rfl (by decide) rfl ?_
  refine x_iload_n (pc := 45) dX10_tellsAct_45 rfl rfl ?_
  refine x_aload_n (pc := 46) dX10_tellsAct_46 rfl rfl ?_
  refine x_iload_n (pc := 47) dX10_tellsAct_47 rfl rfl ?_
  refine x_iconst (pc := 48) (v := 1) dX10_tellsAct_48 (by decide) ?_
  refine x_callV (pc := 49) (As := [.int _, .int _]) dX10_tellsAct_49 km_X10_comesAct kv_X10_comesAct kl_RX10_407 hM.s rfl rfl (by decide) ⟨Nat.le_refl _, Nat.le_refl _⟩ rfl (Nat.le_of_ble_eq_true rfl) (Nat.le_of_ble_eq_true rfl) (m_comes3 hM hb h2 (by omega) (fun J3 h3 f3 => ⟨rfl, rfl, ?_⟩))
  have g3 := g2.tr f3
  refine x_iadd (pc := 52) dX10_tellsAct_52 ?_
  refine x_ireturn (pc := 53) dX10_tellsAct_53 ⟨_, rfl, rfl⟩ ⟨Nat.le_refl _, Nat.le_refl _⟩ ?_
  exact K _ h3 g3

set_option maxHeartbeats 4000000 in
set_option maxRecDepth 100000 in
theorem m_yields4 {T : xT} {n : Nat} {sh : Nat → Nat × Nat} {I : xI} {R : xR} {L : xL} {P : xPost} {M : Nat} {v b r : Nat} {f : Nat → Nat} (hM : xModel sh R M) (hb : b < 6) {x : Int32} (hA : ATM I M 4 v b r f) (hr : r + 2 ≤ 20) (K : ∀ J : xI, ATM J M 4 v b (r + 2) (apL f r [50, 10]) → amF M I J → P (n, sh, 0, 0) J R L (some (.int (-(x + nI b))))) : XM T zX10_yieldsAct 3 [.ref M, .int (nI b), .int x] n sh I R L P := by
  refine x_aload_n (pc := 0) dX10_yieldsAct_0 rfl rfl ?_
  refine x_getr (pc := 1) dX10_yieldsAct_1 kf_RX10_22 hM.s rfl hM.f0 ?_
  refine x_iload_n (pc := 4) dX10_yieldsAct_4 rfl rfl ?_
  refine x_ialdn (pc := 5) (a := b) dX10_yieldsAct_5 hM.s0 (by omega) (by omega) ?_
  rw [hA.2.1, show nI 4 = 4 from rfl]
  refine x_tsw (pc := 6) (dt := 81) [(2, 40), (3, 81), (4, 47), (5, 81), (6, 61)] dX10_yieldsAct_6 (by decide +kernel) (by decide) ?_
  refine xsw_c (fun h => absurd h (by decide)) (fun _ => ?_)
  refine xsw_c (fun h => absurd h (by decide)) (fun _ => ?_)
  refine xsw_c (fun _ => ?_) (fun h => absurd rfl h)
  refine x_aload_n (pc := 47) dX10_yieldsAct_47 rfl rfl ?_
  refine x_bipush (pc := 48) (v := 50) dX10_yieldsAct_48 (by decide) ?_
  refine x_callV (pc := 50) (As := [.int _]) dX10_yieldsAct_50 km_X10_body kv_X10_body kl_RX10_389 hM.s rfl rfl (by decide) ⟨Nat.le_refl _, Nat.le_refl _⟩ rfl (Nat.le_of_ble_eq_true rfl) (Nat.le_of_ble_eq_true rfl) (m_body (x := 50) hM hA (by omega) (⟨rfl, rfl, ?_⟩))
  have h1 := hA.step (x := 50) (a := 50) rfl
  have g1 := @amF.st M r I 50 (nI (r + 1))
  refine x_aload_n (pc := 53) dX10_yieldsAct_53 rfl rfl ?_
  refine x_iload_n (pc := 54) dX10_yieldsAct_54 rfl rfl ?_
  refine x_iload_n (pc := 55) dX10_yieldsAct_55 rfl rfl ?_
  refine x_callV (pc := 56) (As := [.int _, .int _]) dX10_yieldsAct_56 km_X10_moveYields kv_X10_moveYields kl_RX10_392 hM.s rfl rfl (by decide) ⟨Nat.le_refl _, Nat.le_refl _⟩ rfl (Nat.le_of_ble_eq_true rfl) (Nat.le_of_ble_eq_true rfl) (m_moveYields hM hb h1 (by omega) (fun J2 h2 f2 => ⟨rfl, rfl, ?_⟩))
  have g2 := g1.tr f2
  refine x_ineg (pc := 59) dX10_yieldsAct_59 ?_
  refine x_ireturn (pc := 60) dX10_yieldsAct_60 ⟨_, rfl, rfl⟩ ⟨Nat.le_refl _, Nat.le_refl _⟩ ?_
  exact K _ h2 g2

set_option maxHeartbeats 4000000 in
set_option maxRecDepth 100000 in
theorem m_moveComes4 {T : xT} {n : Nat} {sh : Nat → Nat × Nat} {I : xI} {R : xR} {L : xL} {P : xPost} {M : Nat} {v b r : Nat} {f : Nat → Nat} (hM : xModel sh R M) (hb : b < 6) {x : Int32} (hA : ATM I M 4 v b r f) (hr : r + 3 ≤ 20) (K : ∀ J : xI, ATM J M 4 v b (r + 3) (apL f r [11, 50, 10]) → amF M I J → P (n, sh, 0, 0) J R L (some (.int ((-(x + nI b)) - nI v)))) : XM T zX10_moveComes 4 [.ref M, .int (nI b), .int x] n sh I R L P := by
  refine x_aload_n (pc := 0) dX10_moveComes_0 rfl rfl ?_
  refine x_bipush (pc := 1) (v := 11) dX10_moveComes_1 (by decide) ?_
  refine x_callV (pc := 3) (As := [.int _]) dX10_moveComes_3 km_X10_body kv_X10_body kl_RX10_389 hM.s rfl rfl (by decide) ⟨Nat.le_refl _, Nat.le_refl _⟩ rfl (Nat.le_of_ble_eq_true rfl) (Nat.le_of_ble_eq_true rfl) (m_body (x := 11) hM hA (by omega) (⟨rfl, rfl, ?_⟩))
  have h1 := hA.step (x := 11) (a := 11) rfl
  have g1 := @amF.st M r I 11 (nI (r + 1))
  refine x_aload_n (pc := 6) dX10_moveComes_6 rfl rfl ?_
  refine x_iload_n (pc := 7) dX10_moveComes_7 rfl rfl ?_
  refine x_iload_n (pc := 8) dX10_moveComes_8 rfl rfl ?_
  refine x_callV (pc := 9) (As := [.int _, .int _]) dX10_moveComes_9 km_X10_yieldsAct kv_X10_yieldsAct kl_RX10_398 hM.s rfl rfl (by decide) ⟨Nat.le_refl _, Nat.le_refl _⟩ rfl (Nat.le_of_ble_eq_true rfl) (Nat.le_of_ble_eq_true rfl) (m_yields4 hM hb h1 (by omega) (fun J2 h2 f2 => ⟨rfl, rfl, ?_⟩))
  have g2 := g1.tr f2
  refine x_aload_n (pc := 12) dX10_moveComes_12 rfl rfl ?_
  refine x_getr (pc := 13) dX10_moveComes_13 kf_RX10_26 hM.s rfl hM.f1 ?_
  refine x_iload_n (pc := 16) dX10_moveComes_16 rfl rfl ?_
  refine x_ialdn (pc := 17) (a := b) dX10_moveComes_17 hM.s1 (by omega) (by omega) ?_
  rw [show _ = nI v from h2.2.2.1]
  refine x_isub (pc := 18) dX10_moveComes_18 ?_
  refine x_ireturn (pc := 19) dX10_moveComes_19 ⟨_, rfl, rfl⟩ ⟨Nat.le_refl _, Nat.le_refl _⟩ ?_
  exact K _ h2 g2

set_option maxHeartbeats 4000000 in
set_option maxRecDepth 100000 in
theorem m_yieldingComes4 {T : xT} {n : Nat} {sh : Nat → Nat × Nat} {I : xI} {R : xR} {L : xL} {P : xPost} {M : Nat} {v b r : Nat} {f : Nat → Nat} (hM : xModel sh R M) (hb : b < 6) {x : Int32} (hA : ATM I M 4 v b r f) (hr : r + 4 ≤ 20) (K : ∀ J : xI, ATM J M 4 v b (r + 4) (apL f r [20, 11, 50, 10]) → amF M I J → P (n, sh, 0, 0) J R L (some (.int (((-(x + nI b)) - nI v) ^^^ 6)))) : XM T zX10_yieldingComes 5 [.ref M, .int (nI b), .int x] n sh I R L P := by
  refine x_aload_n (pc := 0) dX10_yieldingComes_0 rfl rfl ?_
  refine x_bipush (pc := 1) (v := 20) dX10_yieldingComes_1 (by decide) ?_
  refine x_callV (pc := 3) (As := [.int _]) dX10_yieldingComes_3 km_X10_body kv_X10_body kl_RX10_389 hM.s rfl rfl (by decide) ⟨Nat.le_refl _, Nat.le_refl _⟩ rfl (Nat.le_of_ble_eq_true rfl) (Nat.le_of_ble_eq_true rfl) (m_body (x := 20) hM hA (by omega) (⟨rfl, rfl, ?_⟩))
  have h1 := hA.step (x := 20) (a := 20) rfl
  have g1 := @amF.st M r I 20 (nI (r + 1))
  refine x_aload_n (pc := 6) dX10_yieldingComes_6 rfl rfl ?_
  refine x_iload_n (pc := 7) dX10_yieldingComes_7 rfl rfl ?_
  refine x_iload_n (pc := 8) dX10_yieldingComes_8 rfl rfl ?_
  refine x_callV (pc := 9) (As := [.int _, .int _]) dX10_yieldingComes_9 km_X10_moveComes kv_X10_moveComes kl_RX10_401 hM.s rfl rfl (by decide) ⟨Nat.le_refl _, Nat.le_refl _⟩ rfl (Nat.le_of_ble_eq_true rfl) (Nat.le_of_ble_eq_true rfl) (m_moveComes4 hM hb h1 (by omega) (fun J2 h2 f2 => ⟨rfl, rfl, ?_⟩))
  have g2 := g1.tr f2
  refine x_bipush (pc := 12) (v := 6) dX10_yieldingComes_12 (by decide) ?_
  refine x_ixor (pc := 14) dX10_yieldingComes_14 ?_
  refine x_ireturn (pc := 15) dX10_yieldingComes_15 ⟨_, rfl, rfl⟩ ⟨Nat.le_refl _, Nat.le_refl _⟩ ?_
  exact K _ h2 g2

set_option maxHeartbeats 4000000 in
set_option maxRecDepth 100000 in
theorem m_comes4 {T : xT} {n : Nat} {sh : Nat → Nat × Nat} {I : xI} {R : xR} {L : xL} {P : xPost} {M : Nat} {v b r : Nat} {f : Nat → Nat} (hM : xModel sh R M) (hb : b < 6) {x : Int32} (hA : ATM I M 4 v b r f) (hr : r + 5 ≤ 20) (K : ∀ J : xI, ATM J M 4 v b (r + 5) (apL f r [51, 20, 11, 50, 10]) → amF M I J → P (n, sh, 0, 0) J R L (some (.int (((-((x + 1) + nI b)) - nI v) ^^^ 6)))) : XM T zX10_comesAct 6 [.ref M, .int (nI b), .int x] n sh I R L P := by
  refine x_aload_n (pc := 0) dX10_comesAct_0 rfl rfl ?_
  refine x_getr (pc := 1) dX10_comesAct_1 kf_RX10_22 hM.s rfl hM.f0 ?_
  refine x_iload_n (pc := 4) dX10_comesAct_4 rfl rfl ?_
  refine x_ialdn (pc := 5) (a := b) dX10_comesAct_5 hM.s0 (by omega) (by omega) ?_
  rw [hA.2.1, show nI 4 = 4 from rfl]
  refine x_tsw (pc := 6) (dt := 88) [(1, 44), (2, 88), (3, 88), (4, 51), (5, 44), (6, 66)] dX10_comesAct_6 (by decide +kernel) (by decide) ?_
  refine xsw_c (fun h => absurd h (by decide)) (fun _ => ?_)
  refine xsw_c (fun h => absurd h (by decide)) (fun _ => ?_)
  refine xsw_c (fun h => absurd h (by decide)) (fun _ => ?_)
  refine xsw_c (fun _ => ?_) (fun h => absurd rfl h)
  refine x_aload_n (pc := 51) dX10_comesAct_51 rfl rfl ?_
  refine x_bipush (pc := 52) (v := 51) dX10_comesAct_52 (by decide) ?_
  refine x_callV (pc := 54) (As := [.int _]) dX10_comesAct_54 km_X10_body kv_X10_body kl_RX10_389 hM.s rfl rfl (by decide) ⟨Nat.le_refl _, Nat.le_refl _⟩ rfl (Nat.le_of_ble_eq_true rfl) (Nat.le_of_ble_eq_true rfl) (m_body (x := 51) hM hA (by omega) (⟨rfl, rfl, ?_⟩))
  have h1 := hA.step (x := 51) (a := 51) rfl
  have g1 := @amF.st M r I 51 (nI (r + 1))
  refine x_aload_n (pc := 57) dX10_comesAct_57 rfl rfl ?_
  refine x_iload_n (pc := 58) dX10_comesAct_58 rfl rfl ?_
  refine x_iload_n (pc := 59) dX10_comesAct_59 rfl rfl ?_
  refine x_iconst (pc := 60) (v := 1) dX10_comesAct_60 (by decide) ?_
  refine x_iadd (pc := 61) dX10_comesAct_61 ?_
  refine x_callV (pc := 62) (As := [.int _, .int _]) dX10_comesAct_62 km_X10_yieldingComes kv_X10_yieldingComes kl_RX10_404 hM.s rfl rfl (by decide) ⟨Nat.le_refl _, Nat.le_refl _⟩ rfl (Nat.le_of_ble_eq_true rfl) (Nat.le_of_ble_eq_true rfl) (m_yieldingComes4 hM hb h1 (by omega) (fun J2 h2 f2 => ⟨rfl, rfl, ?_⟩))
  have g2 := g1.tr f2
  refine x_ireturn (pc := 65) dX10_comesAct_65 ⟨_, rfl, rfl⟩ ⟨Nat.le_refl _, Nat.le_refl _⟩ ?_
  exact K _ h2 g2

set_option maxHeartbeats 4000000 in
set_option maxRecDepth 100000 in
theorem m_moveTells4 {T : xT} {n : Nat} {sh : Nat → Nat × Nat} {I : xI} {R : xR} {L : xL} {P : xPost} {M : Nat} {v b r : Nat} {f : Nat → Nat} (hM : xModel sh R M) (hb : b < 6) {x : Int32} (hA : ATM I M 4 v b r f) (hr : r + 6 ≤ 20) (K : ∀ J : xI, ATM J M 4 v b (r + 6) (apL f r [12, 51, 20, 11, 50, 10]) → amF M I J → P (n, sh, 0, 0) J R L (some (.int ((((-((x + 1) + nI b)) - nI v) ^^^ 6) * 2)))) : XM T zX10_moveTells 7 [.ref M, .int (nI b), .int x] n sh I R L P := by
  refine x_aload_n (pc := 0) dX10_moveTells_0 rfl rfl ?_
  refine x_bipush (pc := 1) (v := 12) dX10_moveTells_1 (by decide) ?_
  refine x_callV (pc := 3) (As := [.int _]) dX10_moveTells_3 km_X10_body kv_X10_body kl_RX10_389 hM.s rfl rfl (by decide) ⟨Nat.le_refl _, Nat.le_refl _⟩ rfl (Nat.le_of_ble_eq_true rfl) (Nat.le_of_ble_eq_true rfl) (m_body (x := 12) hM hA (by omega) (⟨rfl, rfl, ?_⟩))
  have h1 := hA.step (x := 12) (a := 12) rfl
  have g1 := @amF.st M r I 12 (nI (r + 1))
  refine x_aload_n (pc := 6) dX10_moveTells_6 rfl rfl ?_
  refine x_iload_n (pc := 7) dX10_moveTells_7 rfl rfl ?_
  refine x_iload_n (pc := 8) dX10_moveTells_8 rfl rfl ?_
  refine x_callV (pc := 9) (As := [.int _, .int _]) dX10_moveTells_9 km_X10_comesAct kv_X10_comesAct kl_RX10_407 hM.s rfl rfl (by decide) ⟨Nat.le_refl _, Nat.le_refl _⟩ rfl (Nat.le_of_ble_eq_true rfl) (Nat.le_of_ble_eq_true rfl) (m_comes4 hM hb h1 (by omega) (fun J2 h2 f2 => ⟨rfl, rfl, ?_⟩))
  have g2 := g1.tr f2
  refine x_iconst (pc := 12) (v := 2) dX10_moveTells_12 (by decide) ?_
  refine x_imul (pc := 13) dX10_moveTells_13 ?_
  refine x_ireturn (pc := 14) dX10_moveTells_14 ⟨_, rfl, rfl⟩ ⟨Nat.le_refl _, Nat.le_refl _⟩ ?_
  exact K _ h2 g2

set_option maxHeartbeats 4000000 in
set_option maxRecDepth 100000 in
theorem m_tells4 {T : xT} {n : Nat} {sh : Nat → Nat × Nat} {I : xI} {R : xR} {L : xL} {P : xPost} {M : Nat} {v b r : Nat} {f : Nat → Nat} (hM : xModel sh R M) (hb : b < 6) {x : Int32} (hA : ATM I M 4 v b r f) (hr : r + 6 ≤ 20) (K : ∀ J : xI, ATM J M 4 v b (r + 6) (apL f r [12, 51, 20, 11, 50, 10]) → amF M I J → P (n, sh, 0, 0) J R L (some (.int ((((-((x + 1) + nI b)) - nI v) ^^^ 6) * 2)))) : XM T zX10_tellsAct 8 [.ref M, .int (nI b), .int x] n sh I R L P := by
  refine x_aload_n (pc := 0) dX10_tellsAct_0 rfl rfl ?_
  refine x_getr (pc := 1) dX10_tellsAct_1 kf_RX10_22 hM.s rfl hM.f0 ?_
  refine x_iload_n (pc := 4) dX10_tellsAct_4 rfl rfl ?_
  refine x_ialdn (pc := 5) (a := b) dX10_tellsAct_5 hM.s0 (by omega) (by omega) ?_
  rw [hA.2.1, show nI 4 = 4 from rfl]
  refine x_lsw (pc := 6) (dt := 69) [(3, 32), (5, 54)] dX10_tellsAct_6 (by decide +kernel) (by decide +kernel) (by decide) ?_
  refine xsw_c (fun h => absurd h (by decide)) (fun _ => ?_)
  refine xsw_c (fun h => absurd h (by decide)) (fun _ => ?_)
  refine xsw_n ?_
  refine x_aload_n (pc := 69) dX10_tellsAct_69 rfl rfl ?_
  refine x_iload_n (pc := 70) dX10_tellsAct_70 rfl rfl ?_
  refine x_iload_n (pc := 71) dX10_tellsAct_71 rfl rfl ?_
  refine x_callV (pc := 72) (As := [.int _, .int _]) dX10_tellsAct_72 km_X10_moveTells kv_X10_moveTells kl_RX10_410 hM.s rfl rfl (by decide) ⟨Nat.le_refl _, Nat.le_refl _⟩ rfl (Nat.le_of_ble_eq_true rfl) (Nat.le_of_ble_eq_true rfl) (m_moveTells4 hM hb hA (by omega) (fun J1 h1 f1 => ⟨rfl, rfl, ?_⟩))
  have g1 := f1
  refine x_ireturn (pc := 75) dX10_tellsAct_75 ⟨_, rfl, rfl⟩ ⟨Nat.le_refl _, Nat.le_refl _⟩ ?_
  exact K _ h1 g1

set_option maxHeartbeats 4000000 in
set_option maxRecDepth 100000 in
theorem m_yields5 {T : xT} {n : Nat} {sh : Nat → Nat × Nat} {I : xI} {R : xR} {L : xL} {P : xPost} {M : Nat} {v b r : Nat} {f : Nat → Nat} (hM : xModel sh R M) (hb : b < 6) {x : Int32} (hA : ATM I M 5 v b r f) (hr : r + 1 ≤ 20) (K : ∀ J : xI, ATM J M 5 v b (r + 1) (apL f r [10]) → amF M I J → P (n, sh, 0, 0) J R L (some (.int (x + nI b)))) : XM T zX10_yieldsAct 3 [.ref M, .int (nI b), .int x] n sh I R L P := by
  refine x_aload_n (pc := 0) dX10_yieldsAct_0 rfl rfl ?_
  refine x_getr (pc := 1) dX10_yieldsAct_1 kf_RX10_22 hM.s rfl hM.f0 ?_
  refine x_iload_n (pc := 4) dX10_yieldsAct_4 rfl rfl ?_
  refine x_ialdn (pc := 5) (a := b) dX10_yieldsAct_5 hM.s0 (by omega) (by omega) ?_
  rw [hA.2.1, show nI 5 = 5 from rfl]
  refine x_tsw (pc := 6) (dt := 81) [(2, 40), (3, 81), (4, 47), (5, 81), (6, 61)] dX10_yieldsAct_6 (by decide +kernel) (by decide) ?_
  refine xsw_c (fun h => absurd h (by decide)) (fun _ => ?_)
  refine xsw_c (fun h => absurd h (by decide)) (fun _ => ?_)
  refine xsw_c (fun h => absurd h (by decide)) (fun _ => ?_)
  refine xsw_c (fun _ => ?_) (fun h => absurd rfl h)
  refine x_aload_n (pc := 81) dX10_yieldsAct_81 rfl rfl ?_
  refine x_iload_n (pc := 82) dX10_yieldsAct_82 rfl rfl ?_
  refine x_iload_n (pc := 83) dX10_yieldsAct_83 rfl rfl ?_
  refine x_callV (pc := 84) (As := [.int _, .int _]) dX10_yieldsAct_84 km_X10_moveYields kv_X10_moveYields kl_RX10_392 hM.s rfl rfl (by decide) ⟨Nat.le_refl _, Nat.le_refl _⟩ rfl (Nat.le_of_ble_eq_true rfl) (Nat.le_of_ble_eq_true rfl) (m_moveYields hM hb hA (by omega) (fun J1 h1 f1 => ⟨rfl, rfl, ?_⟩))
  have g1 := f1
  refine x_ireturn (pc := 87) dX10_yieldsAct_87 ⟨_, rfl, rfl⟩ ⟨Nat.le_refl _, Nat.le_refl _⟩ ?_
  exact K _ h1 g1

set_option maxHeartbeats 4000000 in
set_option maxRecDepth 100000 in
theorem m_moveComes5 {T : xT} {n : Nat} {sh : Nat → Nat × Nat} {I : xI} {R : xR} {L : xL} {P : xPost} {M : Nat} {v b r : Nat} {f : Nat → Nat} (hM : xModel sh R M) (hb : b < 6) {x : Int32} (hA : ATM I M 5 v b r f) (hr : r + 2 ≤ 20) (K : ∀ J : xI, ATM J M 5 v b (r + 2) (apL f r [11, 10]) → amF M I J → P (n, sh, 0, 0) J R L (some (.int ((x + nI b) - nI v)))) : XM T zX10_moveComes 4 [.ref M, .int (nI b), .int x] n sh I R L P := by
  refine x_aload_n (pc := 0) dX10_moveComes_0 rfl rfl ?_
  refine x_bipush (pc := 1) (v := 11) dX10_moveComes_1 (by decide) ?_
  refine x_callV (pc := 3) (As := [.int _]) dX10_moveComes_3 km_X10_body kv_X10_body kl_RX10_389 hM.s rfl rfl (by decide) ⟨Nat.le_refl _, Nat.le_refl _⟩ rfl (Nat.le_of_ble_eq_true rfl) (Nat.le_of_ble_eq_true rfl) (m_body (x := 11) hM hA (by omega) (⟨rfl, rfl, ?_⟩))
  have h1 := hA.step (x := 11) (a := 11) rfl
  have g1 := @amF.st M r I 11 (nI (r + 1))
  refine x_aload_n (pc := 6) dX10_moveComes_6 rfl rfl ?_
  refine x_iload_n (pc := 7) dX10_moveComes_7 rfl rfl ?_
  refine x_iload_n (pc := 8) dX10_moveComes_8 rfl rfl ?_
  refine x_callV (pc := 9) (As := [.int _, .int _]) dX10_moveComes_9 km_X10_yieldsAct kv_X10_yieldsAct kl_RX10_398 hM.s rfl rfl (by decide) ⟨Nat.le_refl _, Nat.le_refl _⟩ rfl (Nat.le_of_ble_eq_true rfl) (Nat.le_of_ble_eq_true rfl) (m_yields5 hM hb h1 (by omega) (fun J2 h2 f2 => ⟨rfl, rfl, ?_⟩))
  have g2 := g1.tr f2
  refine x_aload_n (pc := 12) dX10_moveComes_12 rfl rfl ?_
  refine x_getr (pc := 13) dX10_moveComes_13 kf_RX10_26 hM.s rfl hM.f1 ?_
  refine x_iload_n (pc := 16) dX10_moveComes_16 rfl rfl ?_
  refine x_ialdn (pc := 17) (a := b) dX10_moveComes_17 hM.s1 (by omega) (by omega) ?_
  rw [show _ = nI v from h2.2.2.1]
  refine x_isub (pc := 18) dX10_moveComes_18 ?_
  refine x_ireturn (pc := 19) dX10_moveComes_19 ⟨_, rfl, rfl⟩ ⟨Nat.le_refl _, Nat.le_refl _⟩ ?_
  exact K _ h2 g2

set_option maxHeartbeats 4000000 in
set_option maxRecDepth 100000 in
theorem m_yieldingComes5 {T : xT} {n : Nat} {sh : Nat → Nat × Nat} {I : xI} {R : xR} {L : xL} {P : xPost} {M : Nat} {v b r : Nat} {f : Nat → Nat} (hM : xModel sh R M) (hb : b < 6) {x : Int32} (hA : ATM I M 5 v b r f) (hr : r + 3 ≤ 20) (K : ∀ J : xI, ATM J M 5 v b (r + 3) (apL f r [20, 11, 10]) → amF M I J → P (n, sh, 0, 0) J R L (some (.int (((x + nI b) - nI v) ^^^ 6)))) : XM T zX10_yieldingComes 5 [.ref M, .int (nI b), .int x] n sh I R L P := by
  refine x_aload_n (pc := 0) dX10_yieldingComes_0 rfl rfl ?_
  refine x_bipush (pc := 1) (v := 20) dX10_yieldingComes_1 (by decide) ?_
  refine x_callV (pc := 3) (As := [.int _]) dX10_yieldingComes_3 km_X10_body kv_X10_body kl_RX10_389 hM.s rfl rfl (by decide) ⟨Nat.le_refl _, Nat.le_refl _⟩ rfl (Nat.le_of_ble_eq_true rfl) (Nat.le_of_ble_eq_true rfl) (m_body (x := 20) hM hA (by omega) (⟨rfl, rfl, ?_⟩))
  have h1 := hA.step (x := 20) (a := 20) rfl
  have g1 := @amF.st M r I 20 (nI (r + 1))
  refine x_aload_n (pc := 6) dX10_yieldingComes_6 rfl rfl ?_
  refine x_iload_n (pc := 7) dX10_yieldingComes_7 rfl rfl ?_
  refine x_iload_n (pc := 8) dX10_yieldingComes_8 rfl rfl ?_
  refine x_callV (pc := 9) (As := [.int _, .int _]) dX10_yieldingComes_9 km_X10_moveComes kv_X10_moveComes kl_RX10_401 hM.s rfl rfl (by decide) ⟨Nat.le_refl _, Nat.le_refl _⟩ rfl (Nat.le_of_ble_eq_true rfl) (Nat.le_of_ble_eq_true rfl) (m_moveComes5 hM hb h1 (by omega) (fun J2 h2 f2 => ⟨rfl, rfl, ?_⟩))
  have g2 := g1.tr f2
  refine x_bipush (pc := 12) (v := 6) dX10_yieldingComes_12 (by decide) ?_
  refine x_ixor (pc := 14) dX10_yieldingComes_14 ?_
  refine x_ireturn (pc := 15) dX10_yieldingComes_15 ⟨_, rfl, rfl⟩ ⟨Nat.le_refl _, Nat.le_refl _⟩ ?_
  exact K _ h2 g2

set_option maxHeartbeats 4000000 in
set_option maxRecDepth 100000 in
theorem m_comes5 {T : xT} {n : Nat} {sh : Nat → Nat × Nat} {I : xI} {R : xR} {L : xL} {P : xPost} {M : Nat} {v b r : Nat} {f : Nat → Nat} (hM : xModel sh R M) (hb : b < 6) {x : Int32} (hA : ATM I M 5 v b r f) (hr : r + 3 ≤ 20) (K : ∀ J : xI, ATM J M 5 v b (r + 3) (apL f r [20, 11, 10]) → amF M I J → P (n, sh, 0, 0) J R L (some (.int (((x + nI b) - nI v) ^^^ 6)))) : XM T zX10_comesAct 6 [.ref M, .int (nI b), .int x] n sh I R L P := by
  refine x_aload_n (pc := 0) dX10_comesAct_0 rfl rfl ?_
  refine x_getr (pc := 1) dX10_comesAct_1 kf_RX10_22 hM.s rfl hM.f0 ?_
  refine x_iload_n (pc := 4) dX10_comesAct_4 rfl rfl ?_
  refine x_ialdn (pc := 5) (a := b) dX10_comesAct_5 hM.s0 (by omega) (by omega) ?_
  rw [hA.2.1, show nI 5 = 5 from rfl]
  refine x_tsw (pc := 6) (dt := 88) [(1, 44), (2, 88), (3, 88), (4, 51), (5, 44), (6, 66)] dX10_comesAct_6 (by decide +kernel) (by decide) ?_
  refine xsw_c (fun h => absurd h (by decide)) (fun _ => ?_)
  refine xsw_c (fun h => absurd h (by decide)) (fun _ => ?_)
  refine xsw_c (fun h => absurd h (by decide)) (fun _ => ?_)
  refine xsw_c (fun h => absurd h (by decide)) (fun _ => ?_)
  refine xsw_c (fun _ => ?_) (fun h => absurd rfl h)
  refine x_aload_n (pc := 44) dX10_comesAct_44 rfl rfl ?_
  refine x_iload_n (pc := 45) dX10_comesAct_45 rfl rfl ?_
  refine x_iload_n (pc := 46) dX10_comesAct_46 rfl rfl ?_
  refine x_callV (pc := 47) (As := [.int _, .int _]) dX10_comesAct_47 km_X10_yieldingComes kv_X10_yieldingComes kl_RX10_404 hM.s rfl rfl (by decide) ⟨Nat.le_refl _, Nat.le_refl _⟩ rfl (Nat.le_of_ble_eq_true rfl) (Nat.le_of_ble_eq_true rfl) (m_yieldingComes5 hM hb hA (by omega) (fun J1 h1 f1 => ⟨rfl, rfl, ?_⟩))
  have g1 := f1
  refine x_ireturn (pc := 50) dX10_comesAct_50 ⟨_, rfl, rfl⟩ ⟨Nat.le_refl _, Nat.le_refl _⟩ ?_
  exact K _ h1 g1

set_option maxHeartbeats 4000000 in
set_option maxRecDepth 100000 in
theorem m_moveTells5 {T : xT} {n : Nat} {sh : Nat → Nat × Nat} {I : xI} {R : xR} {L : xL} {P : xPost} {M : Nat} {v b r : Nat} {f : Nat → Nat} (hM : xModel sh R M) (hb : b < 6) {x : Int32} (hA : ATM I M 5 v b r f) (hr : r + 4 ≤ 20) (K : ∀ J : xI, ATM J M 5 v b (r + 4) (apL f r [12, 20, 11, 10]) → amF M I J → P (n, sh, 0, 0) J R L (some (.int ((((x + nI b) - nI v) ^^^ 6) * 2)))) : XM T zX10_moveTells 7 [.ref M, .int (nI b), .int x] n sh I R L P := by
  refine x_aload_n (pc := 0) dX10_moveTells_0 rfl rfl ?_
  refine x_bipush (pc := 1) (v := 12) dX10_moveTells_1 (by decide) ?_
  refine x_callV (pc := 3) (As := [.int _]) dX10_moveTells_3 km_X10_body kv_X10_body kl_RX10_389 hM.s rfl rfl (by decide) ⟨Nat.le_refl _, Nat.le_refl _⟩ rfl (Nat.le_of_ble_eq_true rfl) (Nat.le_of_ble_eq_true rfl) (m_body (x := 12) hM hA (by omega) (⟨rfl, rfl, ?_⟩))
  have h1 := hA.step (x := 12) (a := 12) rfl
  have g1 := @amF.st M r I 12 (nI (r + 1))
  refine x_aload_n (pc := 6) dX10_moveTells_6 rfl rfl ?_
  refine x_iload_n (pc := 7) dX10_moveTells_7 rfl rfl ?_
  refine x_iload_n (pc := 8) dX10_moveTells_8 rfl rfl ?_
  refine x_callV (pc := 9) (As := [.int _, .int _]) dX10_moveTells_9 km_X10_comesAct kv_X10_comesAct kl_RX10_407 hM.s rfl rfl (by decide) ⟨Nat.le_refl _, Nat.le_refl _⟩ rfl (Nat.le_of_ble_eq_true rfl) (Nat.le_of_ble_eq_true rfl) (m_comes5 hM hb h1 (by omega) (fun J2 h2 f2 => ⟨rfl, rfl, ?_⟩))
  have g2 := g1.tr f2
  refine x_iconst (pc := 12) (v := 2) dX10_moveTells_12 (by decide) ?_
  refine x_imul (pc := 13) dX10_moveTells_13 ?_
  refine x_ireturn (pc := 14) dX10_moveTells_14 ⟨_, rfl, rfl⟩ ⟨Nat.le_refl _, Nat.le_refl _⟩ ?_
  exact K _ h2 g2

set_option maxHeartbeats 4000000 in
set_option maxRecDepth 100000 in
theorem m_tells5 {T : xT} {n : Nat} {sh : Nat → Nat × Nat} {I : xI} {R : xR} {L : xL} {P : xPost} {M : Nat} {v b r : Nat} {f : Nat → Nat} (hM : xModel sh R M) (hb : b < 6) {x : Int32} (hA : ATM I M 5 v b r f) (hr : r + 5 ≤ 20) (K : ∀ J : xI, ATM J M 5 v b (r + 5) (apL f r [60, 12, 20, 11, 10]) → amF M I J → P (n, sh, 0, 0) J R L (some (.int (((((x - nI b) + nI b) - nI v) ^^^ 6) * 2)))) : XM T zX10_tellsAct 8 [.ref M, .int (nI b), .int x] n sh I R L P := by
  refine x_aload_n (pc := 0) dX10_tellsAct_0 rfl rfl ?_
  refine x_getr (pc := 1) dX10_tellsAct_1 kf_RX10_22 hM.s rfl hM.f0 ?_
  refine x_iload_n (pc := 4) dX10_tellsAct_4 rfl rfl ?_
  refine x_ialdn (pc := 5) (a := b) dX10_tellsAct_5 hM.s0 (by omega) (by omega) ?_
  rw [hA.2.1, show nI 5 = 5 from rfl]
  refine x_lsw (pc := 6) (dt := 69) [(3, 32), (5, 54)] dX10_tellsAct_6 (by decide +kernel) (by decide +kernel) (by decide) ?_
  refine xsw_c (fun h => absurd h (by decide)) (fun _ => ?_)
  refine xsw_c (fun _ => ?_) (fun h => absurd rfl h)
  refine x_aload_n (pc := 54) dX10_tellsAct_54 rfl rfl ?_
  refine x_bipush (pc := 55) (v := 60) dX10_tellsAct_55 (by decide) ?_
  refine x_callV (pc := 57) (As := [.int _]) dX10_tellsAct_57 km_X10_body kv_X10_body kl_RX10_389 hM.s rfl rfl (by decide) ⟨Nat.le_refl _, Nat.le_refl _⟩ rfl (Nat.le_of_ble_eq_true rfl) (Nat.le_of_ble_eq_true rfl) (m_body (x := 60) hM hA (by omega) (⟨rfl, rfl, ?_⟩))
  have h1 := hA.step (x := 60) (a := 60) rfl
  have g1 := @amF.st M r I 60 (nI (r + 1))
  refine x_aload_n (pc := 60) dX10_tellsAct_60 rfl rfl ?_
  refine x_iload_n (pc := 61) dX10_tellsAct_61 rfl rfl ?_
  refine x_iload_n (pc := 62) dX10_tellsAct_62 rfl rfl ?_
  refine x_iload_n (pc := 63) dX10_tellsAct_63 rfl rfl ?_
  refine x_isub (pc := 64) dX10_tellsAct_64 ?_
  refine x_callV (pc := 65) (As := [.int _, .int _]) dX10_tellsAct_65 km_X10_moveTells kv_X10_moveTells kl_RX10_410 hM.s rfl rfl (by decide) ⟨Nat.le_refl _, Nat.le_refl _⟩ rfl (Nat.le_of_ble_eq_true rfl) (Nat.le_of_ble_eq_true rfl) (m_moveTells5 hM hb h1 (by omega) (fun J2 h2 f2 => ⟨rfl, rfl, ?_⟩))
  have g2 := g1.tr f2
  refine x_ireturn (pc := 68) dX10_tellsAct_68 ⟨_, rfl, rfl⟩ ⟨Nat.le_refl _, Nat.le_refl _⟩ ?_
  exact K _ h2 g2

set_option maxHeartbeats 4000000 in
set_option maxRecDepth 100000 in
theorem m_yields6 {T : xT} {n : Nat} {sh : Nat → Nat × Nat} {I : xI} {R : xR} {L : xL} {P : xPost} {M : Nat} {v b r : Nat} {f : Nat → Nat} (hM : xModel sh R M) (hb : b < 6) {x : Int32} (hA : ATM I M 6 v b r f) (hr : r + 3 ≤ 20) (K : ∀ J : xI, ATM J M 6 v b (r + 3) (apL f r [71, 30, 10]) → amF M I J → P (n, sh, 0, 0) J R L (some (.int (((x * 3) + nI b) ^^^ nI v)))) : XM T zX10_yieldsAct 3 [.ref M, .int (nI b), .int x] n sh I R L P := by
  refine x_aload_n (pc := 0) dX10_yieldsAct_0 rfl rfl ?_
  refine x_getr (pc := 1) dX10_yieldsAct_1 kf_RX10_22 hM.s rfl hM.f0 ?_
  refine x_iload_n (pc := 4) dX10_yieldsAct_4 rfl rfl ?_
  refine x_ialdn (pc := 5) (a := b) dX10_yieldsAct_5 hM.s0 (by omega) (by omega) ?_
  rw [hA.2.1, show nI 6 = 6 from rfl]
  refine x_tsw (pc := 6) (dt := 81) [(2, 40), (3, 81), (4, 47), (5, 81), (6, 61)] dX10_yieldsAct_6 (by decide +kernel) (by decide) ?_
  refine xsw_c (fun h => absurd h (by decide)) (fun _ => ?_)
  refine xsw_c (fun h => absurd h (by decide)) (fun _ => ?_)
  refine xsw_c (fun h => absurd h (by decide)) (fun _ => ?_)
  refine xsw_c (fun h => absurd h (by decide)) (fun _ => ?_)
  refine xsw_c (fun _ => ?_) (fun h => absurd rfl h)
  refine x_aload_n (pc := 61) dX10_yieldsAct_61 rfl rfl ?_
  refine x_bipush (pc := 62) (v := 71) dX10_yieldsAct_62 (by decide) ?_
  refine x_callV (pc := 64) (As := [.int _]) dX10_yieldsAct_64 km_X10_body kv_X10_body kl_RX10_389 hM.s rfl rfl (by decide) ⟨Nat.le_refl _, Nat.le_refl _⟩ rfl (Nat.le_of_ble_eq_true rfl) (Nat.le_of_ble_eq_true rfl) (m_body (x := 71) hM hA (by omega) (⟨rfl, rfl, ?_⟩))
  have h1 := hA.step (x := 71) (a := 71) rfl
  have g1 := @amF.st M r I 71 (nI (r + 1))
  refine x_aload_n (pc := 67) dX10_yieldsAct_67 rfl rfl ?_
  refine x_iload_n (pc := 68) dX10_yieldsAct_68 rfl rfl ?_
  refine x_iload_n (pc := 69) dX10_yieldsAct_69 rfl rfl ?_
  refine x_callV (pc := 70) (As := [.int _, .int _]) dX10_yieldsAct_70 km_X10_comingYields kv_X10_comingYields kl_RX10_395 hM.s rfl rfl (by decide) ⟨Nat.le_refl _, Nat.le_refl _⟩ rfl (Nat.le_of_ble_eq_true rfl) (Nat.le_of_ble_eq_true rfl) (m_comingYields hM hb h1 (by omega) (fun J2 h2 f2 => ⟨rfl, rfl, ?_⟩))
  have g2 := g1.tr f2
  refine x_aload_n (pc := 73) dX10_yieldsAct_73 rfl rfl ?_
  refine x_getr (pc := 74) dX10_yieldsAct_74 kf_RX10_26 hM.s rfl hM.f1 ?_
  refine x_iload_n (pc := 77) dX10_yieldsAct_77 rfl rfl ?_
  refine x_ialdn (pc := 78) (a := b) dX10_yieldsAct_78 hM.s1 (by omega) (by omega) ?_
  rw [show _ = nI v from h2.2.2.1]
  refine x_ixor (pc := 79) dX10_yieldsAct_79 ?_
  refine x_ireturn (pc := 80) dX10_yieldsAct_80 ⟨_, rfl, rfl⟩ ⟨Nat.le_refl _, Nat.le_refl _⟩ ?_
  exact K _ h2 g2

set_option maxHeartbeats 4000000 in
set_option maxRecDepth 100000 in
theorem m_moveComes6 {T : xT} {n : Nat} {sh : Nat → Nat × Nat} {I : xI} {R : xR} {L : xL} {P : xPost} {M : Nat} {v b r : Nat} {f : Nat → Nat} (hM : xModel sh R M) (hb : b < 6) {x : Int32} (hA : ATM I M 6 v b r f) (hr : r + 4 ≤ 20) (K : ∀ J : xI, ATM J M 6 v b (r + 4) (apL f r [11, 71, 30, 10]) → amF M I J → P (n, sh, 0, 0) J R L (some (.int ((((x * 3) + nI b) ^^^ nI v) - nI v)))) : XM T zX10_moveComes 4 [.ref M, .int (nI b), .int x] n sh I R L P := by
  refine x_aload_n (pc := 0) dX10_moveComes_0 rfl rfl ?_
  refine x_bipush (pc := 1) (v := 11) dX10_moveComes_1 (by decide) ?_
  refine x_callV (pc := 3) (As := [.int _]) dX10_moveComes_3 km_X10_body kv_X10_body kl_RX10_389 hM.s rfl rfl (by decide) ⟨Nat.le_refl _, Nat.le_refl _⟩ rfl (Nat.le_of_ble_eq_true rfl) (Nat.le_of_ble_eq_true rfl) (m_body (x := 11) hM hA (by omega) (⟨rfl, rfl, ?_⟩))
  have h1 := hA.step (x := 11) (a := 11) rfl
  have g1 := @amF.st M r I 11 (nI (r + 1))
  refine x_aload_n (pc := 6) dX10_moveComes_6 rfl rfl ?_
  refine x_iload_n (pc := 7) dX10_moveComes_7 rfl rfl ?_
  refine x_iload_n (pc := 8) dX10_moveComes_8 rfl rfl ?_
  refine x_callV (pc := 9) (As := [.int _, .int _]) dX10_moveComes_9 km_X10_yieldsAct kv_X10_yieldsAct kl_RX10_398 hM.s rfl rfl (by decide) ⟨Nat.le_refl _, Nat.le_refl _⟩ rfl (Nat.le_of_ble_eq_true rfl) (Nat.le_of_ble_eq_true rfl) (m_yields6 hM hb h1 (by omega) (fun J2 h2 f2 => ⟨rfl, rfl, ?_⟩))
  have g2 := g1.tr f2
  refine x_aload_n (pc := 12) dX10_moveComes_12 rfl rfl ?_
  refine x_getr (pc := 13) dX10_moveComes_13 kf_RX10_26 hM.s rfl hM.f1 ?_
  refine x_iload_n (pc := 16) dX10_moveComes_16 rfl rfl ?_
  refine x_ialdn (pc := 17) (a := b) dX10_moveComes_17 hM.s1 (by omega) (by omega) ?_
  rw [show _ = nI v from h2.2.2.1]
  refine x_isub (pc := 18) dX10_moveComes_18 ?_
  refine x_ireturn (pc := 19) dX10_moveComes_19 ⟨_, rfl, rfl⟩ ⟨Nat.le_refl _, Nat.le_refl _⟩ ?_
  exact K _ h2 g2

set_option maxHeartbeats 4000000 in
set_option maxRecDepth 100000 in
theorem m_yieldingComes6 {T : xT} {n : Nat} {sh : Nat → Nat × Nat} {I : xI} {R : xR} {L : xL} {P : xPost} {M : Nat} {v b r : Nat} {f : Nat → Nat} (hM : xModel sh R M) (hb : b < 6) {x : Int32} (hA : ATM I M 6 v b r f) (hr : r + 5 ≤ 20) (K : ∀ J : xI, ATM J M 6 v b (r + 5) (apL f r [20, 11, 71, 30, 10]) → amF M I J → P (n, sh, 0, 0) J R L (some (.int (((((x * 3) + nI b) ^^^ nI v) - nI v) ^^^ 6)))) : XM T zX10_yieldingComes 5 [.ref M, .int (nI b), .int x] n sh I R L P := by
  refine x_aload_n (pc := 0) dX10_yieldingComes_0 rfl rfl ?_
  refine x_bipush (pc := 1) (v := 20) dX10_yieldingComes_1 (by decide) ?_
  refine x_callV (pc := 3) (As := [.int _]) dX10_yieldingComes_3 km_X10_body kv_X10_body kl_RX10_389 hM.s rfl rfl (by decide) ⟨Nat.le_refl _, Nat.le_refl _⟩ rfl (Nat.le_of_ble_eq_true rfl) (Nat.le_of_ble_eq_true rfl) (m_body (x := 20) hM hA (by omega) (⟨rfl, rfl, ?_⟩))
  have h1 := hA.step (x := 20) (a := 20) rfl
  have g1 := @amF.st M r I 20 (nI (r + 1))
  refine x_aload_n (pc := 6) dX10_yieldingComes_6 rfl rfl ?_
  refine x_iload_n (pc := 7) dX10_yieldingComes_7 rfl rfl ?_
  refine x_iload_n (pc := 8) dX10_yieldingComes_8 rfl rfl ?_
  refine x_callV (pc := 9) (As := [.int _, .int _]) dX10_yieldingComes_9 km_X10_moveComes kv_X10_moveComes kl_RX10_401 hM.s rfl rfl (by decide) ⟨Nat.le_refl _, Nat.le_refl _⟩ rfl (Nat.le_of_ble_eq_true rfl) (Nat.le_of_ble_eq_true rfl) (m_moveComes6 hM hb h1 (by omega) (fun J2 h2 f2 => ⟨rfl, rfl, ?_⟩))
  have g2 := g1.tr f2
  refine x_bipush (pc := 12) (v := 6) dX10_yieldingComes_12 (by decide) ?_
  refine x_ixor (pc := 14) dX10_yieldingComes_14 ?_
  refine x_ireturn (pc := 15) dX10_yieldingComes_15 ⟨_, rfl, rfl⟩ ⟨Nat.le_refl _, Nat.le_refl _⟩ ?_
  exact K _ h2 g2

set_option maxHeartbeats 4000000 in
set_option maxRecDepth 100000 in
theorem m_comes6 {T : xT} {n : Nat} {sh : Nat → Nat × Nat} {I : xI} {R : xR} {L : xL} {P : xPost} {M : Nat} {v b r : Nat} {f : Nat → Nat} (hM : xModel sh R M) (hb : b < 6) {x : Int32} (hA : ATM I M 6 v b r f) (hr : r + 7 ≤ 20) (K : ∀ J : xI, ATM J M 6 v b (r + 7) (apL f r [70, 11, 71, 30, 10, 30, 10]) → amF M I J → P (n, sh, 0, 0) J R L (some (.int (((((x * 3) + nI b) ^^^ nI v) - nI v) + ((2 * 3) + nI b))))) : XM T zX10_comesAct 6 [.ref M, .int (nI b), .int x] n sh I R L P := by
  refine x_aload_n (pc := 0) dX10_comesAct_0 rfl rfl ?_
  refine x_getr (pc := 1) dX10_comesAct_1 kf_RX10_22 hM.s rfl hM.f0 ?_
  refine x_iload_n (pc := 4) dX10_comesAct_4 rfl rfl ?_
  refine x_ialdn (pc := 5) (a := b) dX10_comesAct_5 hM.s0 (by omega) (by omega) ?_
  rw [hA.2.1, show nI 6 = 6 from rfl]
  refine x_tsw (pc := 6) (dt := 88) [(1, 44), (2, 88), (3, 88), (4, 51), (5, 44), (6, 66)] dX10_comesAct_6 (by decide +kernel) (by decide) ?_
  refine xsw_c (fun h => absurd h (by decide)) (fun _ => ?_)
  refine xsw_c (fun h => absurd h (by decide)) (fun _ => ?_)
  refine xsw_c (fun h => absurd h (by decide)) (fun _ => ?_)
  refine xsw_c (fun h => absurd h (by decide)) (fun _ => ?_)
  refine xsw_c (fun h => absurd h (by decide)) (fun _ => ?_)
  refine xsw_c (fun _ => ?_) (fun h => absurd rfl h)
  refine x_aload_n (pc := 66) dX10_comesAct_66 rfl rfl ?_
  refine x_bipush (pc := 67) (v := 70) dX10_comesAct_67 (by decide) ?_
  refine x_callV (pc := 69) (As := [.int _]) dX10_comesAct_69 km_X10_body kv_X10_body kl_RX10_389 hM.s rfl rfl (by decide) ⟨Nat.le_refl _, Nat.le_refl _⟩ rfl (Nat.le_of_ble_eq_true rfl) (Nat.le_of_ble_eq_true rfl) (m_body (x := 70) hM hA (by omega) (⟨rfl, rfl, ?_⟩))
  have h1 := hA.step (x := 70) (a := 70) rfl
  have g1 := @amF.st M r I 70 (nI (r + 1))
  refine x_aload_n (pc := 72) dX10_comesAct_72 rfl rfl ?_
  refine x_iload_n (pc := 73) dX10_comesAct_73 rfl rfl ?_
  refine x_iload_n (pc := 74) dX10_comesAct_74 rfl rfl ?_
  refine x_callV (pc := 75) (As := [.int _, .int _]) dX10_comesAct_75 km_X10_moveComes kv_X10_moveComes kl_RX10_401 hM.s rfl rfl (by decide) ⟨Nat.le_refl _, Nat.le_refl _⟩ rfl (Nat.le_of_ble_eq_true rfl) (Nat.le_of_ble_eq_true rfl) (m_moveComes6 hM hb h1 (by omega) (fun J2 h2 f2 => ⟨rfl, rfl, ?_⟩))
  have g2 := g1.tr f2
  refine x_istore_n (pc := 78) (lv' := [(0, .ref M), (1, .int (nI b)), (2, .int x), (3, .int ((((x * 3) + nI b) ^^^ nI v) - nI v))]) dX10_comesAct_78 rfl (by decide) rfl ?_
  refine x_iload_n (pc := 79) dX10_comesAct_79 rfl rfl ?_
  refine x_aload_n (pc := 80) dX10_comesAct_80 rfl rfl ?_
  refine x_iload_n (pc := 81) dX10_comesAct_81 rfl rfl ?_
  refine x_iconst (pc := 82) (v := 2) dX10_comesAct_82 (by decide) ?_
  refine x_callV (pc := 83) (As := [.int _, .int _]) dX10_comesAct_83 km_X10_comingYields kv_X10_comingYields kl_RX10_395 hM.s rfl rfl (by decide) ⟨Nat.le_refl _, Nat.le_refl _⟩ rfl (Nat.le_of_ble_eq_true rfl) (Nat.le_of_ble_eq_true rfl) (m_comingYields hM hb h2 (by omega) (fun J3 h3 f3 => ⟨rfl, rfl, ?_⟩))
  have g3 := g2.tr f3
  refine x_iadd (pc := 86) dX10_comesAct_86 ?_
  refine x_ireturn (pc := 87) dX10_comesAct_87 ⟨_, rfl, rfl⟩ ⟨Nat.le_refl _, Nat.le_refl _⟩ ?_
  exact K _ h3 g3

set_option maxHeartbeats 4000000 in
set_option maxRecDepth 100000 in
theorem m_moveTells6 {T : xT} {n : Nat} {sh : Nat → Nat × Nat} {I : xI} {R : xR} {L : xL} {P : xPost} {M : Nat} {v b r : Nat} {f : Nat → Nat} (hM : xModel sh R M) (hb : b < 6) {x : Int32} (hA : ATM I M 6 v b r f) (hr : r + 8 ≤ 20) (K : ∀ J : xI, ATM J M 6 v b (r + 8) (apL f r [12, 70, 11, 71, 30, 10, 30, 10]) → amF M I J → P (n, sh, 0, 0) J R L (some (.int ((((((x * 3) + nI b) ^^^ nI v) - nI v) + ((2 * 3) + nI b)) * 2)))) : XM T zX10_moveTells 7 [.ref M, .int (nI b), .int x] n sh I R L P := by
  refine x_aload_n (pc := 0) dX10_moveTells_0 rfl rfl ?_
  refine x_bipush (pc := 1) (v := 12) dX10_moveTells_1 (by decide) ?_
  refine x_callV (pc := 3) (As := [.int _]) dX10_moveTells_3 km_X10_body kv_X10_body kl_RX10_389 hM.s rfl rfl (by decide) ⟨Nat.le_refl _, Nat.le_refl _⟩ rfl (Nat.le_of_ble_eq_true rfl) (Nat.le_of_ble_eq_true rfl) (m_body (x := 12) hM hA (by omega) (⟨rfl, rfl, ?_⟩))
  have h1 := hA.step (x := 12) (a := 12) rfl
  have g1 := @amF.st M r I 12 (nI (r + 1))
  refine x_aload_n (pc := 6) dX10_moveTells_6 rfl rfl ?_
  refine x_iload_n (pc := 7) dX10_moveTells_7 rfl rfl ?_
  refine x_iload_n (pc := 8) dX10_moveTells_8 rfl rfl ?_
  refine x_callV (pc := 9) (As := [.int _, .int _]) dX10_moveTells_9 km_X10_comesAct kv_X10_comesAct kl_RX10_407 hM.s rfl rfl (by decide) ⟨Nat.le_refl _, Nat.le_refl _⟩ rfl (Nat.le_of_ble_eq_true rfl) (Nat.le_of_ble_eq_true rfl) (m_comes6 hM hb h1 (by omega) (fun J2 h2 f2 => ⟨rfl, rfl, ?_⟩))
  have g2 := g1.tr f2
  refine x_iconst (pc := 12) (v := 2) dX10_moveTells_12 (by decide) ?_
  refine x_imul (pc := 13) dX10_moveTells_13 ?_
  refine x_ireturn (pc := 14) dX10_moveTells_14 ⟨_, rfl, rfl⟩ ⟨Nat.le_refl _, Nat.le_refl _⟩ ?_
  exact K _ h2 g2

set_option maxHeartbeats 4000000 in
set_option maxRecDepth 100000 in
theorem m_tells6 {T : xT} {n : Nat} {sh : Nat → Nat × Nat} {I : xI} {R : xR} {L : xL} {P : xPost} {M : Nat} {v b r : Nat} {f : Nat → Nat} (hM : xModel sh R M) (hb : b < 6) {x : Int32} (hA : ATM I M 6 v b r f) (hr : r + 8 ≤ 20) (K : ∀ J : xI, ATM J M 6 v b (r + 8) (apL f r [12, 70, 11, 71, 30, 10, 30, 10]) → amF M I J → P (n, sh, 0, 0) J R L (some (.int ((((((x * 3) + nI b) ^^^ nI v) - nI v) + ((2 * 3) + nI b)) * 2)))) : XM T zX10_tellsAct 8 [.ref M, .int (nI b), .int x] n sh I R L P := by
  refine x_aload_n (pc := 0) dX10_tellsAct_0 rfl rfl ?_
  refine x_getr (pc := 1) dX10_tellsAct_1 kf_RX10_22 hM.s rfl hM.f0 ?_
  refine x_iload_n (pc := 4) dX10_tellsAct_4 rfl rfl ?_
  refine x_ialdn (pc := 5) (a := b) dX10_tellsAct_5 hM.s0 (by omega) (by omega) ?_
  rw [hA.2.1, show nI 6 = 6 from rfl]
  refine x_lsw (pc := 6) (dt := 69) [(3, 32), (5, 54)] dX10_tellsAct_6 (by decide +kernel) (by decide +kernel) (by decide) ?_
  refine xsw_c (fun h => absurd h (by decide)) (fun _ => ?_)
  refine xsw_c (fun h => absurd h (by decide)) (fun _ => ?_)
  refine xsw_n ?_
  refine x_aload_n (pc := 69) dX10_tellsAct_69 rfl rfl ?_
  refine x_iload_n (pc := 70) dX10_tellsAct_70 rfl rfl ?_
  refine x_iload_n (pc := 71) dX10_tellsAct_71 rfl rfl ?_
  refine x_callV (pc := 72) (As := [.int _, .int _]) dX10_tellsAct_72 km_X10_moveTells kv_X10_moveTells kl_RX10_410 hM.s rfl rfl (by decide) ⟨Nat.le_refl _, Nat.le_refl _⟩ rfl (Nat.le_of_ble_eq_true rfl) (Nat.le_of_ble_eq_true rfl) (m_moveTells6 hM hb hA (by omega) (fun J1 h1 f1 => ⟨rfl, rfl, ?_⟩))
  have g1 := f1
  refine x_ireturn (pc := 75) dX10_tellsAct_75 ⟨_, rfl, rfl⟩ ⟨Nat.le_refl _, Nat.le_refl _⟩ ?_
  exact K _ h1 g1

set_option maxHeartbeats 4000000 in
set_option maxRecDepth 100000 in
theorem lm_act_0_0 {T : xT} {n : Nat} {sh : Nat → Nat × Nat} {I : xI} {R : xR} {L : xL} {P : xPost} {M : Nat} (hM : xModel sh R M) {v k : Nat} {z : Int32} (hk : k < 6) (hA0 : ATM I M 0 v k 0 (fun _ => 0)) (K : ∀ J : xI, AMT J M (actL 0 0) → amF M I J → P (n, sh, 0, 0) J R L (some (.int (actR 0 0 z v k))))  :  X T zX10_act 9 0 0 P 25 [(0, .ref M), (1, .int (nI k)), (2, .int 0), (3, .int z)] [] (n, sh, 0, 0) (I) R L := by
  refine x_iload_n (pc := 25) dX10_act_25 rfl rfl ?_
  refine x_if_ne_f (pc := 26) (tgt := 38) dX10_act_26 (by decide) (by decide) ?_
  refine x_aload_n (pc := 29) dX10_act_29 rfl rfl ?_
  refine x_iload_n (pc := 30) dX10_act_30 rfl rfl ?_
  refine x_iload_n (pc := 31) dX10_act_31 rfl rfl ?_
  refine x_callV (pc := 32) (As := [.int _, .int _]) dX10_act_32 km_X10_yieldsAct kv_X10_yieldsAct kl_RX10_398 hM.s rfl rfl (by decide) ⟨Nat.le_refl _, Nat.le_refl _⟩ rfl (Nat.le_of_ble_eq_true rfl) (Nat.le_of_ble_eq_true rfl) (m_yields0 (v := v) (b := k) (r := 0) (f := fun _ => 0) hM hk hA0 (by decide) (fun J hJ gJ => ⟨rfl, rfl, ?_⟩))
  refine x_goto (pc := 35) (tgt := 58) dX10_act_35 (by decide) ?_
  refine x_ireturn (pc := 58) dX10_act_58 ⟨_, rfl, rfl⟩ ⟨Nat.le_refl _, Nat.le_refl _⟩ ?_
  exact K J (ATM.act (l := [10]) hJ) gJ

set_option maxHeartbeats 4000000 in
set_option maxRecDepth 100000 in
theorem lm_act_0_1 {T : xT} {n : Nat} {sh : Nat → Nat × Nat} {I : xI} {R : xR} {L : xL} {P : xPost} {M : Nat} (hM : xModel sh R M) {v k : Nat} {z : Int32} (hk : k < 6) (hA0 : ATM I M 0 v k 0 (fun _ => 0)) (K : ∀ J : xI, AMT J M (actL 0 1) → amF M I J → P (n, sh, 0, 0) J R L (some (.int (actR 0 1 z v k))))  :  X T zX10_act 9 0 0 P 25 [(0, .ref M), (1, .int (nI k)), (2, .int 1), (3, .int z)] [] (n, sh, 0, 0) (I) R L := by
  refine x_iload_n (pc := 25) dX10_act_25 rfl rfl ?_
  refine x_if_ne_t (pc := 26) (tgt := 38) dX10_act_26 (by decide) (by decide) ?_
  refine x_iload_n (pc := 38) dX10_act_38 rfl rfl ?_
  refine x_iconst (pc := 39) (v := 1) dX10_act_39 (by decide) ?_
  refine x_icmp_ne_f (pc := 40) (tgt := 52) dX10_act_40 (by decide) (by decide) ?_
  refine x_aload_n (pc := 43) dX10_act_43 rfl rfl ?_
  refine x_iload_n (pc := 44) dX10_act_44 rfl rfl ?_
  refine x_iload_n (pc := 45) dX10_act_45 rfl rfl ?_
  refine x_callV (pc := 46) (As := [.int _, .int _]) dX10_act_46 km_X10_comesAct kv_X10_comesAct kl_RX10_407 hM.s rfl rfl (by decide) ⟨Nat.le_refl _, Nat.le_refl _⟩ rfl (Nat.le_of_ble_eq_true rfl) (Nat.le_of_ble_eq_true rfl) (m_comes0 (v := v) (b := k) (r := 0) (f := fun _ => 0) hM hk hA0 (by decide) (fun J hJ gJ => ⟨rfl, rfl, ?_⟩))
  refine x_goto (pc := 49) (tgt := 58) dX10_act_49 (by decide) ?_
  refine x_ireturn (pc := 58) dX10_act_58 ⟨_, rfl, rfl⟩ ⟨Nat.le_refl _, Nat.le_refl _⟩ ?_
  exact K J (ATM.act (l := [11, 10]) hJ) gJ

set_option maxHeartbeats 4000000 in
set_option maxRecDepth 100000 in
theorem lm_act_0_2 {T : xT} {n : Nat} {sh : Nat → Nat × Nat} {I : xI} {R : xR} {L : xL} {P : xPost} {M : Nat} (hM : xModel sh R M) {v k : Nat} {z : Int32} (hk : k < 6) (hA0 : ATM I M 0 v k 0 (fun _ => 0)) (K : ∀ J : xI, AMT J M (actL 0 2) → amF M I J → P (n, sh, 0, 0) J R L (some (.int (actR 0 2 z v k))))  :  X T zX10_act 9 0 0 P 25 [(0, .ref M), (1, .int (nI k)), (2, .int 2), (3, .int z)] [] (n, sh, 0, 0) (I) R L := by
  refine x_iload_n (pc := 25) dX10_act_25 rfl rfl ?_
  refine x_if_ne_t (pc := 26) (tgt := 38) dX10_act_26 (by decide) (by decide) ?_
  refine x_iload_n (pc := 38) dX10_act_38 rfl rfl ?_
  refine x_iconst (pc := 39) (v := 1) dX10_act_39 (by decide) ?_
  refine x_icmp_ne_t (pc := 40) (tgt := 52) dX10_act_40 (by decide) (by decide) ?_
  refine x_aload_n (pc := 52) dX10_act_52 rfl rfl ?_
  refine x_iload_n (pc := 53) dX10_act_53 rfl rfl ?_
  refine x_iload_n (pc := 54) dX10_act_54 rfl rfl ?_
  refine x_callV (pc := 55) (As := [.int _, .int _]) dX10_act_55 km_X10_tellsAct kv_X10_tellsAct kl_RX10_413 hM.s rfl rfl (by decide) ⟨Nat.le_refl _, Nat.le_refl _⟩ rfl (Nat.le_of_ble_eq_true rfl) (Nat.le_of_ble_eq_true rfl) (m_tells0 (v := v) (b := k) (r := 0) (f := fun _ => 0) hM hk hA0 (by decide) (fun J hJ gJ => ⟨rfl, rfl, ?_⟩))
  refine x_ireturn (pc := 58) dX10_act_58 ⟨_, rfl, rfl⟩ ⟨Nat.le_refl _, Nat.le_refl _⟩ ?_
  exact K J (ATM.act (l := [12, 11, 10]) hJ) gJ

set_option maxHeartbeats 4000000 in
set_option maxRecDepth 100000 in
theorem lm_act_1_0 {T : xT} {n : Nat} {sh : Nat → Nat × Nat} {I : xI} {R : xR} {L : xL} {P : xPost} {M : Nat} (hM : xModel sh R M) {v k : Nat} {z : Int32} (hk : k < 6) (hA0 : ATM I M 1 v k 0 (fun _ => 0)) (K : ∀ J : xI, AMT J M (actL 1 0) → amF M I J → P (n, sh, 0, 0) J R L (some (.int (actR 1 0 z v k))))  :  X T zX10_act 9 0 0 P 25 [(0, .ref M), (1, .int (nI k)), (2, .int 0), (3, .int z)] [] (n, sh, 0, 0) (I) R L := by
  refine x_iload_n (pc := 25) dX10_act_25 rfl rfl ?_
  refine x_if_ne_f (pc := 26) (tgt := 38) dX10_act_26 (by decide) (by decide) ?_
  refine x_aload_n (pc := 29) dX10_act_29 rfl rfl ?_
  refine x_iload_n (pc := 30) dX10_act_30 rfl rfl ?_
  refine x_iload_n (pc := 31) dX10_act_31 rfl rfl ?_
  refine x_callV (pc := 32) (As := [.int _, .int _]) dX10_act_32 km_X10_yieldsAct kv_X10_yieldsAct kl_RX10_398 hM.s rfl rfl (by decide) ⟨Nat.le_refl _, Nat.le_refl _⟩ rfl (Nat.le_of_ble_eq_true rfl) (Nat.le_of_ble_eq_true rfl) (m_yields1 (v := v) (b := k) (r := 0) (f := fun _ => 0) hM hk hA0 (by decide) (fun J hJ gJ => ⟨rfl, rfl, ?_⟩))
  refine x_goto (pc := 35) (tgt := 58) dX10_act_35 (by decide) ?_
  refine x_ireturn (pc := 58) dX10_act_58 ⟨_, rfl, rfl⟩ ⟨Nat.le_refl _, Nat.le_refl _⟩ ?_
  exact K J (ATM.act (l := [10]) hJ) gJ

set_option maxHeartbeats 4000000 in
set_option maxRecDepth 100000 in
theorem lm_act_1_1 {T : xT} {n : Nat} {sh : Nat → Nat × Nat} {I : xI} {R : xR} {L : xL} {P : xPost} {M : Nat} (hM : xModel sh R M) {v k : Nat} {z : Int32} (hk : k < 6) (hA0 : ATM I M 1 v k 0 (fun _ => 0)) (K : ∀ J : xI, AMT J M (actL 1 1) → amF M I J → P (n, sh, 0, 0) J R L (some (.int (actR 1 1 z v k))))  :  X T zX10_act 9 0 0 P 25 [(0, .ref M), (1, .int (nI k)), (2, .int 1), (3, .int z)] [] (n, sh, 0, 0) (I) R L := by
  refine x_iload_n (pc := 25) dX10_act_25 rfl rfl ?_
  refine x_if_ne_t (pc := 26) (tgt := 38) dX10_act_26 (by decide) (by decide) ?_
  refine x_iload_n (pc := 38) dX10_act_38 rfl rfl ?_
  refine x_iconst (pc := 39) (v := 1) dX10_act_39 (by decide) ?_
  refine x_icmp_ne_f (pc := 40) (tgt := 52) dX10_act_40 (by decide) (by decide) ?_
  refine x_aload_n (pc := 43) dX10_act_43 rfl rfl ?_
  refine x_iload_n (pc := 44) dX10_act_44 rfl rfl ?_
  refine x_iload_n (pc := 45) dX10_act_45 rfl rfl ?_
  refine x_callV (pc := 46) (As := [.int _, .int _]) dX10_act_46 km_X10_comesAct kv_X10_comesAct kl_RX10_407 hM.s rfl rfl (by decide) ⟨Nat.le_refl _, Nat.le_refl _⟩ rfl (Nat.le_of_ble_eq_true rfl) (Nat.le_of_ble_eq_true rfl) (m_comes1 (v := v) (b := k) (r := 0) (f := fun _ => 0) hM hk hA0 (by decide) (fun J hJ gJ => ⟨rfl, rfl, ?_⟩))
  refine x_goto (pc := 49) (tgt := 58) dX10_act_49 (by decide) ?_
  refine x_ireturn (pc := 58) dX10_act_58 ⟨_, rfl, rfl⟩ ⟨Nat.le_refl _, Nat.le_refl _⟩ ?_
  exact K J (ATM.act (l := [20, 11, 10]) hJ) gJ

set_option maxHeartbeats 4000000 in
set_option maxRecDepth 100000 in
theorem lm_act_1_2 {T : xT} {n : Nat} {sh : Nat → Nat × Nat} {I : xI} {R : xR} {L : xL} {P : xPost} {M : Nat} (hM : xModel sh R M) {v k : Nat} {z : Int32} (hk : k < 6) (hA0 : ATM I M 1 v k 0 (fun _ => 0)) (K : ∀ J : xI, AMT J M (actL 1 2) → amF M I J → P (n, sh, 0, 0) J R L (some (.int (actR 1 2 z v k))))  :  X T zX10_act 9 0 0 P 25 [(0, .ref M), (1, .int (nI k)), (2, .int 2), (3, .int z)] [] (n, sh, 0, 0) (I) R L := by
  refine x_iload_n (pc := 25) dX10_act_25 rfl rfl ?_
  refine x_if_ne_t (pc := 26) (tgt := 38) dX10_act_26 (by decide) (by decide) ?_
  refine x_iload_n (pc := 38) dX10_act_38 rfl rfl ?_
  refine x_iconst (pc := 39) (v := 1) dX10_act_39 (by decide) ?_
  refine x_icmp_ne_t (pc := 40) (tgt := 52) dX10_act_40 (by decide) (by decide) ?_
  refine x_aload_n (pc := 52) dX10_act_52 rfl rfl ?_
  refine x_iload_n (pc := 53) dX10_act_53 rfl rfl ?_
  refine x_iload_n (pc := 54) dX10_act_54 rfl rfl ?_
  refine x_callV (pc := 55) (As := [.int _, .int _]) dX10_act_55 km_X10_tellsAct kv_X10_tellsAct kl_RX10_413 hM.s rfl rfl (by decide) ⟨Nat.le_refl _, Nat.le_refl _⟩ rfl (Nat.le_of_ble_eq_true rfl) (Nat.le_of_ble_eq_true rfl) (m_tells1 (v := v) (b := k) (r := 0) (f := fun _ => 0) hM hk hA0 (by decide) (fun J hJ gJ => ⟨rfl, rfl, ?_⟩))
  refine x_ireturn (pc := 58) dX10_act_58 ⟨_, rfl, rfl⟩ ⟨Nat.le_refl _, Nat.le_refl _⟩ ?_
  exact K J (ATM.act (l := [12, 20, 11, 10]) hJ) gJ

set_option maxHeartbeats 4000000 in
set_option maxRecDepth 100000 in
theorem lm_act_2_0 {T : xT} {n : Nat} {sh : Nat → Nat × Nat} {I : xI} {R : xR} {L : xL} {P : xPost} {M : Nat} (hM : xModel sh R M) {v k : Nat} {z : Int32} (hk : k < 6) (hA0 : ATM I M 2 v k 0 (fun _ => 0)) (K : ∀ J : xI, AMT J M (actL 2 0) → amF M I J → P (n, sh, 0, 0) J R L (some (.int (actR 2 0 z v k))))  :  X T zX10_act 9 0 0 P 25 [(0, .ref M), (1, .int (nI k)), (2, .int 0), (3, .int z)] [] (n, sh, 0, 0) (I) R L := by
  refine x_iload_n (pc := 25) dX10_act_25 rfl rfl ?_
  refine x_if_ne_f (pc := 26) (tgt := 38) dX10_act_26 (by decide) (by decide) ?_
  refine x_aload_n (pc := 29) dX10_act_29 rfl rfl ?_
  refine x_iload_n (pc := 30) dX10_act_30 rfl rfl ?_
  refine x_iload_n (pc := 31) dX10_act_31 rfl rfl ?_
  refine x_callV (pc := 32) (As := [.int _, .int _]) dX10_act_32 km_X10_yieldsAct kv_X10_yieldsAct kl_RX10_398 hM.s rfl rfl (by decide) ⟨Nat.le_refl _, Nat.le_refl _⟩ rfl (Nat.le_of_ble_eq_true rfl) (Nat.le_of_ble_eq_true rfl) (m_yields2 (v := v) (b := k) (r := 0) (f := fun _ => 0) hM hk hA0 (by decide) (fun J hJ gJ => ⟨rfl, rfl, ?_⟩))
  refine x_goto (pc := 35) (tgt := 58) dX10_act_35 (by decide) ?_
  refine x_ireturn (pc := 58) dX10_act_58 ⟨_, rfl, rfl⟩ ⟨Nat.le_refl _, Nat.le_refl _⟩ ?_
  exact K J (ATM.act (l := [30, 10]) hJ) gJ

set_option maxHeartbeats 4000000 in
set_option maxRecDepth 100000 in
theorem lm_act_2_1 {T : xT} {n : Nat} {sh : Nat → Nat × Nat} {I : xI} {R : xR} {L : xL} {P : xPost} {M : Nat} (hM : xModel sh R M) {v k : Nat} {z : Int32} (hk : k < 6) (hA0 : ATM I M 2 v k 0 (fun _ => 0)) (K : ∀ J : xI, AMT J M (actL 2 1) → amF M I J → P (n, sh, 0, 0) J R L (some (.int (actR 2 1 z v k))))  :  X T zX10_act 9 0 0 P 25 [(0, .ref M), (1, .int (nI k)), (2, .int 1), (3, .int z)] [] (n, sh, 0, 0) (I) R L := by
  refine x_iload_n (pc := 25) dX10_act_25 rfl rfl ?_
  refine x_if_ne_t (pc := 26) (tgt := 38) dX10_act_26 (by decide) (by decide) ?_
  refine x_iload_n (pc := 38) dX10_act_38 rfl rfl ?_
  refine x_iconst (pc := 39) (v := 1) dX10_act_39 (by decide) ?_
  refine x_icmp_ne_f (pc := 40) (tgt := 52) dX10_act_40 (by decide) (by decide) ?_
  refine x_aload_n (pc := 43) dX10_act_43 rfl rfl ?_
  refine x_iload_n (pc := 44) dX10_act_44 rfl rfl ?_
  refine x_iload_n (pc := 45) dX10_act_45 rfl rfl ?_
  refine x_callV (pc := 46) (As := [.int _, .int _]) dX10_act_46 km_X10_comesAct kv_X10_comesAct kl_RX10_407 hM.s rfl rfl (by decide) ⟨Nat.le_refl _, Nat.le_refl _⟩ rfl (Nat.le_of_ble_eq_true rfl) (Nat.le_of_ble_eq_true rfl) (m_comes2 (v := v) (b := k) (r := 0) (f := fun _ => 0) hM hk hA0 (by decide) (fun J hJ gJ => ⟨rfl, rfl, ?_⟩))
  refine x_goto (pc := 49) (tgt := 58) dX10_act_49 (by decide) ?_
  refine x_ireturn (pc := 58) dX10_act_58 ⟨_, rfl, rfl⟩ ⟨Nat.le_refl _, Nat.le_refl _⟩ ?_
  exact K J (ATM.act (l := [11, 30, 10]) hJ) gJ

set_option maxHeartbeats 4000000 in
set_option maxRecDepth 100000 in
theorem lm_act_2_2 {T : xT} {n : Nat} {sh : Nat → Nat × Nat} {I : xI} {R : xR} {L : xL} {P : xPost} {M : Nat} (hM : xModel sh R M) {v k : Nat} {z : Int32} (hk : k < 6) (hA0 : ATM I M 2 v k 0 (fun _ => 0)) (K : ∀ J : xI, AMT J M (actL 2 2) → amF M I J → P (n, sh, 0, 0) J R L (some (.int (actR 2 2 z v k))))  :  X T zX10_act 9 0 0 P 25 [(0, .ref M), (1, .int (nI k)), (2, .int 2), (3, .int z)] [] (n, sh, 0, 0) (I) R L := by
  refine x_iload_n (pc := 25) dX10_act_25 rfl rfl ?_
  refine x_if_ne_t (pc := 26) (tgt := 38) dX10_act_26 (by decide) (by decide) ?_
  refine x_iload_n (pc := 38) dX10_act_38 rfl rfl ?_
  refine x_iconst (pc := 39) (v := 1) dX10_act_39 (by decide) ?_
  refine x_icmp_ne_t (pc := 40) (tgt := 52) dX10_act_40 (by decide) (by decide) ?_
  refine x_aload_n (pc := 52) dX10_act_52 rfl rfl ?_
  refine x_iload_n (pc := 53) dX10_act_53 rfl rfl ?_
  refine x_iload_n (pc := 54) dX10_act_54 rfl rfl ?_
  refine x_callV (pc := 55) (As := [.int _, .int _]) dX10_act_55 km_X10_tellsAct kv_X10_tellsAct kl_RX10_413 hM.s rfl rfl (by decide) ⟨Nat.le_refl _, Nat.le_refl _⟩ rfl (Nat.le_of_ble_eq_true rfl) (Nat.le_of_ble_eq_true rfl) (m_tells2 (v := v) (b := k) (r := 0) (f := fun _ => 0) hM hk hA0 (by decide) (fun J hJ gJ => ⟨rfl, rfl, ?_⟩))
  refine x_ireturn (pc := 58) dX10_act_58 ⟨_, rfl, rfl⟩ ⟨Nat.le_refl _, Nat.le_refl _⟩ ?_
  exact K J (ATM.act (l := [12, 11, 30, 10]) hJ) gJ

set_option maxHeartbeats 4000000 in
set_option maxRecDepth 100000 in
theorem lm_act_3_0 {T : xT} {n : Nat} {sh : Nat → Nat × Nat} {I : xI} {R : xR} {L : xL} {P : xPost} {M : Nat} (hM : xModel sh R M) {v k : Nat} {z : Int32} (hk : k < 6) (hA0 : ATM I M 3 v k 0 (fun _ => 0)) (K : ∀ J : xI, AMT J M (actL 3 0) → amF M I J → P (n, sh, 0, 0) J R L (some (.int (actR 3 0 z v k))))  :  X T zX10_act 9 0 0 P 25 [(0, .ref M), (1, .int (nI k)), (2, .int 0), (3, .int z)] [] (n, sh, 0, 0) (I) R L := by
  refine x_iload_n (pc := 25) dX10_act_25 rfl rfl ?_
  refine x_if_ne_f (pc := 26) (tgt := 38) dX10_act_26 (by decide) (by decide) ?_
  refine x_aload_n (pc := 29) dX10_act_29 rfl rfl ?_
  refine x_iload_n (pc := 30) dX10_act_30 rfl rfl ?_
  refine x_iload_n (pc := 31) dX10_act_31 rfl rfl ?_
  refine x_callV (pc := 32) (As := [.int _, .int _]) dX10_act_32 km_X10_yieldsAct kv_X10_yieldsAct kl_RX10_398 hM.s rfl rfl (by decide) ⟨Nat.le_refl _, Nat.le_refl _⟩ rfl (Nat.le_of_ble_eq_true rfl) (Nat.le_of_ble_eq_true rfl) (m_yields3 (v := v) (b := k) (r := 0) (f := fun _ => 0) hM hk hA0 (by decide) (fun J hJ gJ => ⟨rfl, rfl, ?_⟩))
  refine x_goto (pc := 35) (tgt := 58) dX10_act_35 (by decide) ?_
  refine x_ireturn (pc := 58) dX10_act_58 ⟨_, rfl, rfl⟩ ⟨Nat.le_refl _, Nat.le_refl _⟩ ?_
  exact K J (ATM.act (l := [10]) hJ) gJ

set_option maxHeartbeats 4000000 in
set_option maxRecDepth 100000 in
theorem lm_act_3_1 {T : xT} {n : Nat} {sh : Nat → Nat × Nat} {I : xI} {R : xR} {L : xL} {P : xPost} {M : Nat} (hM : xModel sh R M) {v k : Nat} {z : Int32} (hk : k < 6) (hA0 : ATM I M 3 v k 0 (fun _ => 0)) (K : ∀ J : xI, AMT J M (actL 3 1) → amF M I J → P (n, sh, 0, 0) J R L (some (.int (actR 3 1 z v k))))  :  X T zX10_act 9 0 0 P 25 [(0, .ref M), (1, .int (nI k)), (2, .int 1), (3, .int z)] [] (n, sh, 0, 0) (I) R L := by
  refine x_iload_n (pc := 25) dX10_act_25 rfl rfl ?_
  refine x_if_ne_t (pc := 26) (tgt := 38) dX10_act_26 (by decide) (by decide) ?_
  refine x_iload_n (pc := 38) dX10_act_38 rfl rfl ?_
  refine x_iconst (pc := 39) (v := 1) dX10_act_39 (by decide) ?_
  refine x_icmp_ne_f (pc := 40) (tgt := 52) dX10_act_40 (by decide) (by decide) ?_
  refine x_aload_n (pc := 43) dX10_act_43 rfl rfl ?_
  refine x_iload_n (pc := 44) dX10_act_44 rfl rfl ?_
  refine x_iload_n (pc := 45) dX10_act_45 rfl rfl ?_
  refine x_callV (pc := 46) (As := [.int _, .int _]) dX10_act_46 km_X10_comesAct kv_X10_comesAct kl_RX10_407 hM.s rfl rfl (by decide) ⟨Nat.le_refl _, Nat.le_refl _⟩ rfl (Nat.le_of_ble_eq_true rfl) (Nat.le_of_ble_eq_true rfl) (m_comes3 (v := v) (b := k) (r := 0) (f := fun _ => 0) hM hk hA0 (by decide) (fun J hJ gJ => ⟨rfl, rfl, ?_⟩))
  refine x_goto (pc := 49) (tgt := 58) dX10_act_49 (by decide) ?_
  refine x_ireturn (pc := 58) dX10_act_58 ⟨_, rfl, rfl⟩ ⟨Nat.le_refl _, Nat.le_refl _⟩ ?_
  exact K J (ATM.act (l := [11, 10]) hJ) gJ

set_option maxHeartbeats 4000000 in
set_option maxRecDepth 100000 in
theorem lm_act_3_2 {T : xT} {n : Nat} {sh : Nat → Nat × Nat} {I : xI} {R : xR} {L : xL} {P : xPost} {M : Nat} (hM : xModel sh R M) {v k : Nat} {z : Int32} (hk : k < 6) (hA0 : ATM I M 3 v k 0 (fun _ => 0)) (K : ∀ J : xI, AMT J M (actL 3 2) → amF M I J → P (n, sh, 0, 0) J R L (some (.int (actR 3 2 z v k))))  :  X T zX10_act 9 0 0 P 25 [(0, .ref M), (1, .int (nI k)), (2, .int 2), (3, .int z)] [] (n, sh, 0, 0) (I) R L := by
  refine x_iload_n (pc := 25) dX10_act_25 rfl rfl ?_
  refine x_if_ne_t (pc := 26) (tgt := 38) dX10_act_26 (by decide) (by decide) ?_
  refine x_iload_n (pc := 38) dX10_act_38 rfl rfl ?_
  refine x_iconst (pc := 39) (v := 1) dX10_act_39 (by decide) ?_
  refine x_icmp_ne_t (pc := 40) (tgt := 52) dX10_act_40 (by decide) (by decide) ?_
  refine x_aload_n (pc := 52) dX10_act_52 rfl rfl ?_
  refine x_iload_n (pc := 53) dX10_act_53 rfl rfl ?_
  refine x_iload_n (pc := 54) dX10_act_54 rfl rfl ?_
  refine x_callV (pc := 55) (As := [.int _, .int _]) dX10_act_55 km_X10_tellsAct kv_X10_tellsAct kl_RX10_413 hM.s rfl rfl (by decide) ⟨Nat.le_refl _, Nat.le_refl _⟩ rfl (Nat.le_of_ble_eq_true rfl) (Nat.le_of_ble_eq_true rfl) (m_tells3 (v := v) (b := k) (r := 0) (f := fun _ => 0) hM hk hA0 (by decide) (fun J hJ gJ => ⟨rfl, rfl, ?_⟩))
  refine x_ireturn (pc := 58) dX10_act_58 ⟨_, rfl, rfl⟩ ⟨Nat.le_refl _, Nat.le_refl _⟩ ?_
  exact K J (ATM.act (l := [40, 12, 11, 10, 11, 10]) hJ) gJ

set_option maxHeartbeats 4000000 in
set_option maxRecDepth 100000 in
theorem lm_act_4_0 {T : xT} {n : Nat} {sh : Nat → Nat × Nat} {I : xI} {R : xR} {L : xL} {P : xPost} {M : Nat} (hM : xModel sh R M) {v k : Nat} {z : Int32} (hk : k < 6) (hA0 : ATM I M 4 v k 0 (fun _ => 0)) (K : ∀ J : xI, AMT J M (actL 4 0) → amF M I J → P (n, sh, 0, 0) J R L (some (.int (actR 4 0 z v k))))  :  X T zX10_act 9 0 0 P 25 [(0, .ref M), (1, .int (nI k)), (2, .int 0), (3, .int z)] [] (n, sh, 0, 0) (I) R L := by
  refine x_iload_n (pc := 25) dX10_act_25 rfl rfl ?_
  refine x_if_ne_f (pc := 26) (tgt := 38) dX10_act_26 (by decide) (by decide) ?_
  refine x_aload_n (pc := 29) dX10_act_29 rfl rfl ?_
  refine x_iload_n (pc := 30) dX10_act_30 rfl rfl ?_
  refine x_iload_n (pc := 31) dX10_act_31 rfl rfl ?_
  refine x_callV (pc := 32) (As := [.int _, .int _]) dX10_act_32 km_X10_yieldsAct kv_X10_yieldsAct kl_RX10_398 hM.s rfl rfl (by decide) ⟨Nat.le_refl _, Nat.le_refl _⟩ rfl (Nat.le_of_ble_eq_true rfl) (Nat.le_of_ble_eq_true rfl) (m_yields4 (v := v) (b := k) (r := 0) (f := fun _ => 0) hM hk hA0 (by decide) (fun J hJ gJ => ⟨rfl, rfl, ?_⟩))
  refine x_goto (pc := 35) (tgt := 58) dX10_act_35 (by decide) ?_
  refine x_ireturn (pc := 58) dX10_act_58 ⟨_, rfl, rfl⟩ ⟨Nat.le_refl _, Nat.le_refl _⟩ ?_
  exact K J (ATM.act (l := [50, 10]) hJ) gJ

set_option maxHeartbeats 4000000 in
set_option maxRecDepth 100000 in
theorem lm_act_4_1 {T : xT} {n : Nat} {sh : Nat → Nat × Nat} {I : xI} {R : xR} {L : xL} {P : xPost} {M : Nat} (hM : xModel sh R M) {v k : Nat} {z : Int32} (hk : k < 6) (hA0 : ATM I M 4 v k 0 (fun _ => 0)) (K : ∀ J : xI, AMT J M (actL 4 1) → amF M I J → P (n, sh, 0, 0) J R L (some (.int (actR 4 1 z v k))))  :  X T zX10_act 9 0 0 P 25 [(0, .ref M), (1, .int (nI k)), (2, .int 1), (3, .int z)] [] (n, sh, 0, 0) (I) R L := by
  refine x_iload_n (pc := 25) dX10_act_25 rfl rfl ?_
  refine x_if_ne_t (pc := 26) (tgt := 38) dX10_act_26 (by decide) (by decide) ?_
  refine x_iload_n (pc := 38) dX10_act_38 rfl rfl ?_
  refine x_iconst (pc := 39) (v := 1) dX10_act_39 (by decide) ?_
  refine x_icmp_ne_f (pc := 40) (tgt := 52) dX10_act_40 (by decide) (by decide) ?_
  refine x_aload_n (pc := 43) dX10_act_43 rfl rfl ?_
  refine x_iload_n (pc := 44) dX10_act_44 rfl rfl ?_
  refine x_iload_n (pc := 45) dX10_act_45 rfl rfl ?_
  refine x_callV (pc := 46) (As := [.int _, .int _]) dX10_act_46 km_X10_comesAct kv_X10_comesAct kl_RX10_407 hM.s rfl rfl (by decide) ⟨Nat.le_refl _, Nat.le_refl _⟩ rfl (Nat.le_of_ble_eq_true rfl) (Nat.le_of_ble_eq_true rfl) (m_comes4 (v := v) (b := k) (r := 0) (f := fun _ => 0) hM hk hA0 (by decide) (fun J hJ gJ => ⟨rfl, rfl, ?_⟩))
  refine x_goto (pc := 49) (tgt := 58) dX10_act_49 (by decide) ?_
  refine x_ireturn (pc := 58) dX10_act_58 ⟨_, rfl, rfl⟩ ⟨Nat.le_refl _, Nat.le_refl _⟩ ?_
  exact K J (ATM.act (l := [51, 20, 11, 50, 10]) hJ) gJ

set_option maxHeartbeats 4000000 in
set_option maxRecDepth 100000 in
theorem lm_act_4_2 {T : xT} {n : Nat} {sh : Nat → Nat × Nat} {I : xI} {R : xR} {L : xL} {P : xPost} {M : Nat} (hM : xModel sh R M) {v k : Nat} {z : Int32} (hk : k < 6) (hA0 : ATM I M 4 v k 0 (fun _ => 0)) (K : ∀ J : xI, AMT J M (actL 4 2) → amF M I J → P (n, sh, 0, 0) J R L (some (.int (actR 4 2 z v k))))  :  X T zX10_act 9 0 0 P 25 [(0, .ref M), (1, .int (nI k)), (2, .int 2), (3, .int z)] [] (n, sh, 0, 0) (I) R L := by
  refine x_iload_n (pc := 25) dX10_act_25 rfl rfl ?_
  refine x_if_ne_t (pc := 26) (tgt := 38) dX10_act_26 (by decide) (by decide) ?_
  refine x_iload_n (pc := 38) dX10_act_38 rfl rfl ?_
  refine x_iconst (pc := 39) (v := 1) dX10_act_39 (by decide) ?_
  refine x_icmp_ne_t (pc := 40) (tgt := 52) dX10_act_40 (by decide) (by decide) ?_
  refine x_aload_n (pc := 52) dX10_act_52 rfl rfl ?_
  refine x_iload_n (pc := 53) dX10_act_53 rfl rfl ?_
  refine x_iload_n (pc := 54) dX10_act_54 rfl rfl ?_
  refine x_callV (pc := 55) (As := [.int _, .int _]) dX10_act_55 km_X10_tellsAct kv_X10_tellsAct kl_RX10_413 hM.s rfl rfl (by decide) ⟨Nat.le_refl _, Nat.le_refl _⟩ rfl (Nat.le_of_ble_eq_true rfl) (Nat.le_of_ble_eq_true rfl) (m_tells4 (v := v) (b := k) (r := 0) (f := fun _ => 0) hM hk hA0 (by decide) (fun J hJ gJ => ⟨rfl, rfl, ?_⟩))
  refine x_ireturn (pc := 58) dX10_act_58 ⟨_, rfl, rfl⟩ ⟨Nat.le_refl _, Nat.le_refl _⟩ ?_
  exact K J (ATM.act (l := [12, 51, 20, 11, 50, 10]) hJ) gJ

set_option maxHeartbeats 4000000 in
set_option maxRecDepth 100000 in
theorem lm_act_5_0 {T : xT} {n : Nat} {sh : Nat → Nat × Nat} {I : xI} {R : xR} {L : xL} {P : xPost} {M : Nat} (hM : xModel sh R M) {v k : Nat} {z : Int32} (hk : k < 6) (hA0 : ATM I M 5 v k 0 (fun _ => 0)) (K : ∀ J : xI, AMT J M (actL 5 0) → amF M I J → P (n, sh, 0, 0) J R L (some (.int (actR 5 0 z v k))))  :  X T zX10_act 9 0 0 P 25 [(0, .ref M), (1, .int (nI k)), (2, .int 0), (3, .int z)] [] (n, sh, 0, 0) (I) R L := by
  refine x_iload_n (pc := 25) dX10_act_25 rfl rfl ?_
  refine x_if_ne_f (pc := 26) (tgt := 38) dX10_act_26 (by decide) (by decide) ?_
  refine x_aload_n (pc := 29) dX10_act_29 rfl rfl ?_
  refine x_iload_n (pc := 30) dX10_act_30 rfl rfl ?_
  refine x_iload_n (pc := 31) dX10_act_31 rfl rfl ?_
  refine x_callV (pc := 32) (As := [.int _, .int _]) dX10_act_32 km_X10_yieldsAct kv_X10_yieldsAct kl_RX10_398 hM.s rfl rfl (by decide) ⟨Nat.le_refl _, Nat.le_refl _⟩ rfl (Nat.le_of_ble_eq_true rfl) (Nat.le_of_ble_eq_true rfl) (m_yields5 (v := v) (b := k) (r := 0) (f := fun _ => 0) hM hk hA0 (by decide) (fun J hJ gJ => ⟨rfl, rfl, ?_⟩))
  refine x_goto (pc := 35) (tgt := 58) dX10_act_35 (by decide) ?_
  refine x_ireturn (pc := 58) dX10_act_58 ⟨_, rfl, rfl⟩ ⟨Nat.le_refl _, Nat.le_refl _⟩ ?_
  exact K J (ATM.act (l := [10]) hJ) gJ

set_option maxHeartbeats 4000000 in
set_option maxRecDepth 100000 in
theorem lm_act_5_1 {T : xT} {n : Nat} {sh : Nat → Nat × Nat} {I : xI} {R : xR} {L : xL} {P : xPost} {M : Nat} (hM : xModel sh R M) {v k : Nat} {z : Int32} (hk : k < 6) (hA0 : ATM I M 5 v k 0 (fun _ => 0)) (K : ∀ J : xI, AMT J M (actL 5 1) → amF M I J → P (n, sh, 0, 0) J R L (some (.int (actR 5 1 z v k))))  :  X T zX10_act 9 0 0 P 25 [(0, .ref M), (1, .int (nI k)), (2, .int 1), (3, .int z)] [] (n, sh, 0, 0) (I) R L := by
  refine x_iload_n (pc := 25) dX10_act_25 rfl rfl ?_
  refine x_if_ne_t (pc := 26) (tgt := 38) dX10_act_26 (by decide) (by decide) ?_
  refine x_iload_n (pc := 38) dX10_act_38 rfl rfl ?_
  refine x_iconst (pc := 39) (v := 1) dX10_act_39 (by decide) ?_
  refine x_icmp_ne_f (pc := 40) (tgt := 52) dX10_act_40 (by decide) (by decide) ?_
  refine x_aload_n (pc := 43) dX10_act_43 rfl rfl ?_
  refine x_iload_n (pc := 44) dX10_act_44 rfl rfl ?_
  refine x_iload_n (pc := 45) dX10_act_45 rfl rfl ?_
  refine x_callV (pc := 46) (As := [.int _, .int _]) dX10_act_46 km_X10_comesAct kv_X10_comesAct kl_RX10_407 hM.s rfl rfl (by decide) ⟨Nat.le_refl _, Nat.le_refl _⟩ rfl (Nat.le_of_ble_eq_true rfl) (Nat.le_of_ble_eq_true rfl) (m_comes5 (v := v) (b := k) (r := 0) (f := fun _ => 0) hM hk hA0 (by decide) (fun J hJ gJ => ⟨rfl, rfl, ?_⟩))
  refine x_goto (pc := 49) (tgt := 58) dX10_act_49 (by decide) ?_
  refine x_ireturn (pc := 58) dX10_act_58 ⟨_, rfl, rfl⟩ ⟨Nat.le_refl _, Nat.le_refl _⟩ ?_
  exact K J (ATM.act (l := [20, 11, 10]) hJ) gJ

set_option maxHeartbeats 4000000 in
set_option maxRecDepth 100000 in
theorem lm_act_5_2 {T : xT} {n : Nat} {sh : Nat → Nat × Nat} {I : xI} {R : xR} {L : xL} {P : xPost} {M : Nat} (hM : xModel sh R M) {v k : Nat} {z : Int32} (hk : k < 6) (hA0 : ATM I M 5 v k 0 (fun _ => 0)) (K : ∀ J : xI, AMT J M (actL 5 2) → amF M I J → P (n, sh, 0, 0) J R L (some (.int (actR 5 2 z v k))))  :  X T zX10_act 9 0 0 P 25 [(0, .ref M), (1, .int (nI k)), (2, .int 2), (3, .int z)] [] (n, sh, 0, 0) (I) R L := by
  refine x_iload_n (pc := 25) dX10_act_25 rfl rfl ?_
  refine x_if_ne_t (pc := 26) (tgt := 38) dX10_act_26 (by decide) (by decide) ?_
  refine x_iload_n (pc := 38) dX10_act_38 rfl rfl ?_
  refine x_iconst (pc := 39) (v := 1) dX10_act_39 (by decide) ?_
  refine x_icmp_ne_t (pc := 40) (tgt := 52) dX10_act_40 (by decide) (by decide) ?_
  refine x_aload_n (pc := 52) dX10_act_52 rfl rfl ?_
  refine x_iload_n (pc := 53) dX10_act_53 rfl rfl ?_
  refine x_iload_n (pc := 54) dX10_act_54 rfl rfl ?_
  refine x_callV (pc := 55) (As := [.int _, .int _]) dX10_act_55 km_X10_tellsAct kv_X10_tellsAct kl_RX10_413 hM.s rfl rfl (by decide) ⟨Nat.le_refl _, Nat.le_refl _⟩ rfl (Nat.le_of_ble_eq_true rfl) (Nat.le_of_ble_eq_true rfl) (m_tells5 (v := v) (b := k) (r := 0) (f := fun _ => 0) hM hk hA0 (by decide) (fun J hJ gJ => ⟨rfl, rfl, ?_⟩))
  refine x_ireturn (pc := 58) dX10_act_58 ⟨_, rfl, rfl⟩ ⟨Nat.le_refl _, Nat.le_refl _⟩ ?_
  exact K J (ATM.act (l := [60, 12, 20, 11, 10]) hJ) gJ

set_option maxHeartbeats 4000000 in
set_option maxRecDepth 100000 in
theorem lm_act_6_0 {T : xT} {n : Nat} {sh : Nat → Nat × Nat} {I : xI} {R : xR} {L : xL} {P : xPost} {M : Nat} (hM : xModel sh R M) {v k : Nat} {z : Int32} (hk : k < 6) (hA0 : ATM I M 6 v k 0 (fun _ => 0)) (K : ∀ J : xI, AMT J M (actL 6 0) → amF M I J → P (n, sh, 0, 0) J R L (some (.int (actR 6 0 z v k))))  :  X T zX10_act 9 0 0 P 25 [(0, .ref M), (1, .int (nI k)), (2, .int 0), (3, .int z)] [] (n, sh, 0, 0) (I) R L := by
  refine x_iload_n (pc := 25) dX10_act_25 rfl rfl ?_
  refine x_if_ne_f (pc := 26) (tgt := 38) dX10_act_26 (by decide) (by decide) ?_
  refine x_aload_n (pc := 29) dX10_act_29 rfl rfl ?_
  refine x_iload_n (pc := 30) dX10_act_30 rfl rfl ?_
  refine x_iload_n (pc := 31) dX10_act_31 rfl rfl ?_
  refine x_callV (pc := 32) (As := [.int _, .int _]) dX10_act_32 km_X10_yieldsAct kv_X10_yieldsAct kl_RX10_398 hM.s rfl rfl (by decide) ⟨Nat.le_refl _, Nat.le_refl _⟩ rfl (Nat.le_of_ble_eq_true rfl) (Nat.le_of_ble_eq_true rfl) (m_yields6 (v := v) (b := k) (r := 0) (f := fun _ => 0) hM hk hA0 (by decide) (fun J hJ gJ => ⟨rfl, rfl, ?_⟩))
  refine x_goto (pc := 35) (tgt := 58) dX10_act_35 (by decide) ?_
  refine x_ireturn (pc := 58) dX10_act_58 ⟨_, rfl, rfl⟩ ⟨Nat.le_refl _, Nat.le_refl _⟩ ?_
  exact K J (ATM.act (l := [71, 30, 10]) hJ) gJ

set_option maxHeartbeats 4000000 in
set_option maxRecDepth 100000 in
theorem lm_act_6_1 {T : xT} {n : Nat} {sh : Nat → Nat × Nat} {I : xI} {R : xR} {L : xL} {P : xPost} {M : Nat} (hM : xModel sh R M) {v k : Nat} {z : Int32} (hk : k < 6) (hA0 : ATM I M 6 v k 0 (fun _ => 0)) (K : ∀ J : xI, AMT J M (actL 6 1) → amF M I J → P (n, sh, 0, 0) J R L (some (.int (actR 6 1 z v k))))  :  X T zX10_act 9 0 0 P 25 [(0, .ref M), (1, .int (nI k)), (2, .int 1), (3, .int z)] [] (n, sh, 0, 0) (I) R L := by
  refine x_iload_n (pc := 25) dX10_act_25 rfl rfl ?_
  refine x_if_ne_t (pc := 26) (tgt := 38) dX10_act_26 (by decide) (by decide) ?_
  refine x_iload_n (pc := 38) dX10_act_38 rfl rfl ?_
  refine x_iconst (pc := 39) (v := 1) dX10_act_39 (by decide) ?_
  refine x_icmp_ne_f (pc := 40) (tgt := 52) dX10_act_40 (by decide) (by decide) ?_
  refine x_aload_n (pc := 43) dX10_act_43 rfl rfl ?_
  refine x_iload_n (pc := 44) dX10_act_44 rfl rfl ?_
  refine x_iload_n (pc := 45) dX10_act_45 rfl rfl ?_
  refine x_callV (pc := 46) (As := [.int _, .int _]) dX10_act_46 km_X10_comesAct kv_X10_comesAct kl_RX10_407 hM.s rfl rfl (by decide) ⟨Nat.le_refl _, Nat.le_refl _⟩ rfl (Nat.le_of_ble_eq_true rfl) (Nat.le_of_ble_eq_true rfl) (m_comes6 (v := v) (b := k) (r := 0) (f := fun _ => 0) hM hk hA0 (by decide) (fun J hJ gJ => ⟨rfl, rfl, ?_⟩))
  refine x_goto (pc := 49) (tgt := 58) dX10_act_49 (by decide) ?_
  refine x_ireturn (pc := 58) dX10_act_58 ⟨_, rfl, rfl⟩ ⟨Nat.le_refl _, Nat.le_refl _⟩ ?_
  exact K J (ATM.act (l := [70, 11, 71, 30, 10, 30, 10]) hJ) gJ

set_option maxHeartbeats 4000000 in
set_option maxRecDepth 100000 in
theorem lm_act_6_2 {T : xT} {n : Nat} {sh : Nat → Nat × Nat} {I : xI} {R : xR} {L : xL} {P : xPost} {M : Nat} (hM : xModel sh R M) {v k : Nat} {z : Int32} (hk : k < 6) (hA0 : ATM I M 6 v k 0 (fun _ => 0)) (K : ∀ J : xI, AMT J M (actL 6 2) → amF M I J → P (n, sh, 0, 0) J R L (some (.int (actR 6 2 z v k))))  :  X T zX10_act 9 0 0 P 25 [(0, .ref M), (1, .int (nI k)), (2, .int 2), (3, .int z)] [] (n, sh, 0, 0) (I) R L := by
  refine x_iload_n (pc := 25) dX10_act_25 rfl rfl ?_
  refine x_if_ne_t (pc := 26) (tgt := 38) dX10_act_26 (by decide) (by decide) ?_
  refine x_iload_n (pc := 38) dX10_act_38 rfl rfl ?_
  refine x_iconst (pc := 39) (v := 1) dX10_act_39 (by decide) ?_
  refine x_icmp_ne_t (pc := 40) (tgt := 52) dX10_act_40 (by decide) (by decide) ?_
  refine x_aload_n (pc := 52) dX10_act_52 rfl rfl ?_
  refine x_iload_n (pc := 53) dX10_act_53 rfl rfl ?_
  refine x_iload_n (pc := 54) dX10_act_54 rfl rfl ?_
  refine x_callV (pc := 55) (As := [.int _, .int _]) dX10_act_55 km_X10_tellsAct kv_X10_tellsAct kl_RX10_413 hM.s rfl rfl (by decide) ⟨Nat.le_refl _, Nat.le_refl _⟩ rfl (Nat.le_of_ble_eq_true rfl) (Nat.le_of_ble_eq_true rfl) (m_tells6 (v := v) (b := k) (r := 0) (f := fun _ => 0) hM hk hA0 (by decide) (fun J hJ gJ => ⟨rfl, rfl, ?_⟩))
  refine x_ireturn (pc := 58) dX10_act_58 ⟨_, rfl, rfl⟩ ⟨Nat.le_refl _, Nat.le_refl _⟩ ?_
  exact K J (ATM.act (l := [12, 70, 11, 71, 30, 10, 30, 10]) hJ) gJ

set_option maxHeartbeats 4000000 in
set_option maxRecDepth 100000 in
theorem m_actIt {T : xT} {n : Nat} {sh : Nat → Nat × Nat} {I : xI} {R : xR} {L : xL} {P : xPost} {M : Nat} (hM : xModel sh R M) {V : xV} {B : Nat} (h : MDV I M V) (hv : VOK V B) {x y z : Int32} (K : ∀ J : xI, AMT J M (spAct V x y z).2 → amF M I J → P (n, sh, 0, 0) J R L (some (.int (spAct V x y z).1)))  : XM T zX10_act 9 [.ref M, .int x, .int y, .int z] n sh I R L P := by
  obtain ⟨v6, v12, v10, vb, vf, vw, vm, vta, vte, vod, vrg, vdi⟩ := id hv
  refine x_aload_n (pc := 0) dX10_act_0 rfl rfl ?_
  refine x_iconst (pc := 1) (v := 0) dX10_act_1 (by decide) ?_
  refine x_put (pc := 2) dX10_act_2 kf_RX10_205 hM.s rfl (Or.inl kb_10_64) ?_
  have gg : amF M I (up2 I M 64 0) := ⟨fun q p1 p2 => up2_row p1, fun q p => up2_k p⟩
  have h0 : MDV (up2 I M 64 0) M V := h.keep (fun k hk => gg.2 k (by omega)) (fun j hj => gg.1 _ (by omega) (by omega))
  have z0 : AMT (up2 I M 64 0) M [] := ⟨up2_s, fun i hi => absurd hi (by simp)⟩
  refine x_aload_n (pc := 5) dX10_act_5 rfl rfl ?_
  refine x_iload_n (pc := 6) dX10_act_6 rfl rfl ?_
  refine x_callV (pc := 7) (As := [.int _]) dX10_act_7 km_X10_isBeast kv_X10_isBeast kl_RX10_246 hM.s rfl rfl (by decide) ⟨Nat.le_refl _, Nat.le_refl _⟩ rfl (Nat.le_of_ble_eq_true rfl) (Nat.le_of_ble_eq_true rfl) (m_isBeast hM h0.1 v6 (fun k hk ek => ⟨rfl, rfl, ?_⟩) (fun h1 => ⟨rfl, rfl, ?_⟩))
  · skip
    subst ek
    have k7 := k7c (vb k hk).1
    refine x_if_eq_f (pc := 10) (tgt := 23) dX10_act_10 (by decide) (by decide) ?_
    refine x_aload_n (pc := 13) dX10_act_13 rfl rfl ?_
    refine x_iload_n (pc := 14) dX10_act_14 rfl rfl ?_
    refine x_iconst (pc := 15) (v := 0) dX10_act_15 (by decide) ?_
    refine x_iconst (pc := 16) (v := 2) dX10_act_16 (by decide) ?_
    refine x_callV (pc := 17) (As := [.int _, .int _, .int _]) dX10_act_17 km_X10_in kv_X10_in kl_RX10_231 hM.s rfl rfl (by decide) ⟨Nat.le_refl _, Nat.le_refl _⟩ rfl (Nat.le_of_ble_eq_true rfl) (Nat.le_of_ble_eq_true rfl) (m_in hM.s (fun p1 p2 => ⟨rfl, rfl, ?_⟩) (fun g1 => ⟨rfl, rfl, ?_⟩))
    · skip
      refine x_if_ne_t (pc := 20) (tgt := 25) dX10_act_20 (by decide) (by decide) ?_
      rcases i3_k p1 p2 with ey | ey | ey <;> subst ey
      · rcases k7 with q | q | q | q | q | q | q
        · have e9 := spAct_s (V := V) (z := z) v6 hk (show 0 < 3 by decide)
          rw [q] at e9
          rw [e9] at K
          exact lm_act_0_0 hM (by omega) ⟨up2_s, (h0.2.2.2.2.2.2.2.1 0 (by decide) k hk).trans (by rw [q]), h0.2.2.2.2.2.2.2.1 1 (by decide) k hk, fun i hi => absurd hi (by omega)⟩ (fun J q1 q2 => K J q1 (gg.tr q2))
        · have e9 := spAct_s (V := V) (z := z) v6 hk (show 0 < 3 by decide)
          rw [q] at e9
          rw [e9] at K
          exact lm_act_1_0 hM (by omega) ⟨up2_s, (h0.2.2.2.2.2.2.2.1 0 (by decide) k hk).trans (by rw [q]), h0.2.2.2.2.2.2.2.1 1 (by decide) k hk, fun i hi => absurd hi (by omega)⟩ (fun J q1 q2 => K J q1 (gg.tr q2))
        · have e9 := spAct_s (V := V) (z := z) v6 hk (show 0 < 3 by decide)
          rw [q] at e9
          rw [e9] at K
          exact lm_act_2_0 hM (by omega) ⟨up2_s, (h0.2.2.2.2.2.2.2.1 0 (by decide) k hk).trans (by rw [q]), h0.2.2.2.2.2.2.2.1 1 (by decide) k hk, fun i hi => absurd hi (by omega)⟩ (fun J q1 q2 => K J q1 (gg.tr q2))
        · have e9 := spAct_s (V := V) (z := z) v6 hk (show 0 < 3 by decide)
          rw [q] at e9
          rw [e9] at K
          exact lm_act_3_0 hM (by omega) ⟨up2_s, (h0.2.2.2.2.2.2.2.1 0 (by decide) k hk).trans (by rw [q]), h0.2.2.2.2.2.2.2.1 1 (by decide) k hk, fun i hi => absurd hi (by omega)⟩ (fun J q1 q2 => K J q1 (gg.tr q2))
        · have e9 := spAct_s (V := V) (z := z) v6 hk (show 0 < 3 by decide)
          rw [q] at e9
          rw [e9] at K
          exact lm_act_4_0 hM (by omega) ⟨up2_s, (h0.2.2.2.2.2.2.2.1 0 (by decide) k hk).trans (by rw [q]), h0.2.2.2.2.2.2.2.1 1 (by decide) k hk, fun i hi => absurd hi (by omega)⟩ (fun J q1 q2 => K J q1 (gg.tr q2))
        · have e9 := spAct_s (V := V) (z := z) v6 hk (show 0 < 3 by decide)
          rw [q] at e9
          rw [e9] at K
          exact lm_act_5_0 hM (by omega) ⟨up2_s, (h0.2.2.2.2.2.2.2.1 0 (by decide) k hk).trans (by rw [q]), h0.2.2.2.2.2.2.2.1 1 (by decide) k hk, fun i hi => absurd hi (by omega)⟩ (fun J q1 q2 => K J q1 (gg.tr q2))
        · have e9 := spAct_s (V := V) (z := z) v6 hk (show 0 < 3 by decide)
          rw [q] at e9
          rw [e9] at K
          exact lm_act_6_0 hM (by omega) ⟨up2_s, (h0.2.2.2.2.2.2.2.1 0 (by decide) k hk).trans (by rw [q]), h0.2.2.2.2.2.2.2.1 1 (by decide) k hk, fun i hi => absurd hi (by omega)⟩ (fun J q1 q2 => K J q1 (gg.tr q2))
      · rcases k7 with q | q | q | q | q | q | q
        · have e9 := spAct_s (V := V) (z := z) v6 hk (show 1 < 3 by decide)
          rw [q] at e9
          rw [e9] at K
          exact lm_act_0_1 hM (by omega) ⟨up2_s, (h0.2.2.2.2.2.2.2.1 0 (by decide) k hk).trans (by rw [q]), h0.2.2.2.2.2.2.2.1 1 (by decide) k hk, fun i hi => absurd hi (by omega)⟩ (fun J q1 q2 => K J q1 (gg.tr q2))
        · have e9 := spAct_s (V := V) (z := z) v6 hk (show 1 < 3 by decide)
          rw [q] at e9
          rw [e9] at K
          exact lm_act_1_1 hM (by omega) ⟨up2_s, (h0.2.2.2.2.2.2.2.1 0 (by decide) k hk).trans (by rw [q]), h0.2.2.2.2.2.2.2.1 1 (by decide) k hk, fun i hi => absurd hi (by omega)⟩ (fun J q1 q2 => K J q1 (gg.tr q2))
        · have e9 := spAct_s (V := V) (z := z) v6 hk (show 1 < 3 by decide)
          rw [q] at e9
          rw [e9] at K
          exact lm_act_2_1 hM (by omega) ⟨up2_s, (h0.2.2.2.2.2.2.2.1 0 (by decide) k hk).trans (by rw [q]), h0.2.2.2.2.2.2.2.1 1 (by decide) k hk, fun i hi => absurd hi (by omega)⟩ (fun J q1 q2 => K J q1 (gg.tr q2))
        · have e9 := spAct_s (V := V) (z := z) v6 hk (show 1 < 3 by decide)
          rw [q] at e9
          rw [e9] at K
          exact lm_act_3_1 hM (by omega) ⟨up2_s, (h0.2.2.2.2.2.2.2.1 0 (by decide) k hk).trans (by rw [q]), h0.2.2.2.2.2.2.2.1 1 (by decide) k hk, fun i hi => absurd hi (by omega)⟩ (fun J q1 q2 => K J q1 (gg.tr q2))
        · have e9 := spAct_s (V := V) (z := z) v6 hk (show 1 < 3 by decide)
          rw [q] at e9
          rw [e9] at K
          exact lm_act_4_1 hM (by omega) ⟨up2_s, (h0.2.2.2.2.2.2.2.1 0 (by decide) k hk).trans (by rw [q]), h0.2.2.2.2.2.2.2.1 1 (by decide) k hk, fun i hi => absurd hi (by omega)⟩ (fun J q1 q2 => K J q1 (gg.tr q2))
        · have e9 := spAct_s (V := V) (z := z) v6 hk (show 1 < 3 by decide)
          rw [q] at e9
          rw [e9] at K
          exact lm_act_5_1 hM (by omega) ⟨up2_s, (h0.2.2.2.2.2.2.2.1 0 (by decide) k hk).trans (by rw [q]), h0.2.2.2.2.2.2.2.1 1 (by decide) k hk, fun i hi => absurd hi (by omega)⟩ (fun J q1 q2 => K J q1 (gg.tr q2))
        · have e9 := spAct_s (V := V) (z := z) v6 hk (show 1 < 3 by decide)
          rw [q] at e9
          rw [e9] at K
          exact lm_act_6_1 hM (by omega) ⟨up2_s, (h0.2.2.2.2.2.2.2.1 0 (by decide) k hk).trans (by rw [q]), h0.2.2.2.2.2.2.2.1 1 (by decide) k hk, fun i hi => absurd hi (by omega)⟩ (fun J q1 q2 => K J q1 (gg.tr q2))
      · rcases k7 with q | q | q | q | q | q | q
        · have e9 := spAct_s (V := V) (z := z) v6 hk (show 2 < 3 by decide)
          rw [q] at e9
          rw [e9] at K
          exact lm_act_0_2 hM (by omega) ⟨up2_s, (h0.2.2.2.2.2.2.2.1 0 (by decide) k hk).trans (by rw [q]), h0.2.2.2.2.2.2.2.1 1 (by decide) k hk, fun i hi => absurd hi (by omega)⟩ (fun J q1 q2 => K J q1 (gg.tr q2))
        · have e9 := spAct_s (V := V) (z := z) v6 hk (show 2 < 3 by decide)
          rw [q] at e9
          rw [e9] at K
          exact lm_act_1_2 hM (by omega) ⟨up2_s, (h0.2.2.2.2.2.2.2.1 0 (by decide) k hk).trans (by rw [q]), h0.2.2.2.2.2.2.2.1 1 (by decide) k hk, fun i hi => absurd hi (by omega)⟩ (fun J q1 q2 => K J q1 (gg.tr q2))
        · have e9 := spAct_s (V := V) (z := z) v6 hk (show 2 < 3 by decide)
          rw [q] at e9
          rw [e9] at K
          exact lm_act_2_2 hM (by omega) ⟨up2_s, (h0.2.2.2.2.2.2.2.1 0 (by decide) k hk).trans (by rw [q]), h0.2.2.2.2.2.2.2.1 1 (by decide) k hk, fun i hi => absurd hi (by omega)⟩ (fun J q1 q2 => K J q1 (gg.tr q2))
        · have e9 := spAct_s (V := V) (z := z) v6 hk (show 2 < 3 by decide)
          rw [q] at e9
          rw [e9] at K
          exact lm_act_3_2 hM (by omega) ⟨up2_s, (h0.2.2.2.2.2.2.2.1 0 (by decide) k hk).trans (by rw [q]), h0.2.2.2.2.2.2.2.1 1 (by decide) k hk, fun i hi => absurd hi (by omega)⟩ (fun J q1 q2 => K J q1 (gg.tr q2))
        · have e9 := spAct_s (V := V) (z := z) v6 hk (show 2 < 3 by decide)
          rw [q] at e9
          rw [e9] at K
          exact lm_act_4_2 hM (by omega) ⟨up2_s, (h0.2.2.2.2.2.2.2.1 0 (by decide) k hk).trans (by rw [q]), h0.2.2.2.2.2.2.2.1 1 (by decide) k hk, fun i hi => absurd hi (by omega)⟩ (fun J q1 q2 => K J q1 (gg.tr q2))
        · have e9 := spAct_s (V := V) (z := z) v6 hk (show 2 < 3 by decide)
          rw [q] at e9
          rw [e9] at K
          exact lm_act_5_2 hM (by omega) ⟨up2_s, (h0.2.2.2.2.2.2.2.1 0 (by decide) k hk).trans (by rw [q]), h0.2.2.2.2.2.2.2.1 1 (by decide) k hk, fun i hi => absurd hi (by omega)⟩ (fun J q1 q2 => K J q1 (gg.tr q2))
        · have e9 := spAct_s (V := V) (z := z) v6 hk (show 2 < 3 by decide)
          rw [q] at e9
          rw [e9] at K
          exact lm_act_6_2 hM (by omega) ⟨up2_s, (h0.2.2.2.2.2.2.2.1 0 (by decide) k hk).trans (by rw [q]), h0.2.2.2.2.2.2.2.1 1 (by decide) k hk, fun i hi => absurd hi (by omega)⟩ (fun J q1 q2 => K J q1 (gg.tr q2))
    · skip
      refine x_if_ne_f (pc := 20) (tgt := 25) dX10_act_20 (by decide) (by decide) ?_
      refine x_iconst (pc := 23) (v := 0) dX10_act_23 (by decide) ?_
      refine x_ireturn (pc := 24) dX10_act_24 ⟨_, rfl, rfl⟩ ⟨Nat.le_refl _, Nat.le_refl _⟩ ?_
      have e9 : spAct V (nI k) y z = (0, []) := by first | exact spAct_1 h1 | exact spAct_2 g1
      have h9 := K _ (by rw [e9]; exact z0) gg
      rw [e9] at h9
      exact h9
  · skip
    refine x_if_eq_t (pc := 10) (tgt := 23) dX10_act_10 (by decide) (by decide) ?_
    refine x_iconst (pc := 23) (v := 0) dX10_act_23 (by decide) ?_
    refine x_ireturn (pc := 24) dX10_act_24 ⟨_, rfl, rfl⟩ ⟨Nat.le_refl _, Nat.le_refl _⟩ ?_
    have e9 : spAct V (x) y z = (0, []) := by first | exact spAct_1 h1 | exact spAct_2 g1
    have h9 := K _ (by rw [e9]; exact z0) gg
    rw [e9] at h9
    exact h9

