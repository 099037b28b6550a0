/-! ===== taken ===== -/
/-- what a beast is taken for -/
def spTaken (V : xV) (x y : Int32) : Int32 := match idx 7 y with
  | none => -2
  | some o => match idx (V 8 0) x with
    | none => -11
    | some b => if isOne (V 0 b) o = true then nI (V 0 b) else -12
theorem kind_n {y : Int32} (h : y < 0 ∨ (6 : Int32) < y) : idx 7 y = none := idx_n (h.imp id (fun h => le_of_lt1 (n := 6) (by decide) h))
theorem spTaken_k {V : xV} {x y : Int32} (h : y < 0 ∨ 6 < y) : spTaken V x y = -2 := by
  unfold spTaken
  rw [kind_n h]
theorem spTaken_b {V : xV} {x : Int32} {o : Nat} (ho : o < 7) (h : x < 0 ∨ nI (V 8 0) ≤ x) : spTaken V x (nI o) = -11 := by
  unfold spTaken
  rw [idx_s ho (by decide), idx_n h]
theorem spTaken_t {V : xV} {b o : Nat} (ho : o < 7) (h6 : V 8 0 ≤ 6) (hb : b < V 8 0) (h : isOne (V 0 b) o = true) : spTaken V (nI b) (nI o) = nI (V 0 b) := by
  unfold spTaken
  rw [idx_s ho (by decide), idx_s hb (by omega)]
  exact if_pos h
theorem spTaken_f {V : xV} {b o : Nat} (ho : o < 7) (h6 : V 8 0 ≤ 6) (hb : b < V 8 0) (h : isOne (V 0 b) o = false) : spTaken V (nI b) (nI o) = -12 := by
  unfold spTaken
  rw [idx_s ho (by decide), idx_s hb (by omega)]
  exact if_neg (by rw [h]; decide)
theorem isOne_is : ∀ k, k < 7 → ∀ o, o < 7 → (isOne k o = true ↔ (o = 0 ∨ k = o ∨ (o = 1 ∧ (k = 4 ∨ k = 5)) ∨ (o = 2 ∧ k = 6))) := by decide

set_option maxHeartbeats 4000000 in
set_option maxRecDepth 100000 in
theorem c_taken {T : xT} {n : Nat} {sh : Nat → Nat × Nat} {I : xI} {R : xR} {L : xL} {P : xPost} {lr nw im tr rd hu se ac M : Nat} (hG : GEO sh R lr nw im tr rd hu se ac M) {V : xV} {B : Nat} (h : FSC I nw V) (hv : VOK V B) {x y : Int32} (K : P (n, sh, 0, 0) I R L (some (.int (spTaken V x y))))  : XM T zX9_taken 2 [.ref lr, .int x, .int y] n sh I R L P := by
  obtain ⟨v6, v12, v10, vb, vf, vw, vm, vta, vte, vod, vrg, vdi⟩ := id hv
  refine x_iload_n (pc := 0) dX9_taken_0 rfl rfl ?_
  refine x_callS (pc := 1) (As := [.int _]) dX9_taken_1 km_X9_isKind ks_X9_isKind kl_RX9_74 rfl (by decide) ⟨Nat.le_refl _, Nat.le_refl _⟩ rfl (Nat.le_of_ble_eq_true rfl) (Nat.le_of_ble_eq_true rfl) (c_isKind (fun o ho eo => ⟨rfl, rfl, ?_⟩) (fun h1 => ⟨rfl, rfl, ?_⟩))
  · skip
    subst eo
    refine x_if_ne_t (pc := 4) (tgt := 10) dX9_taken_4 (by decide) (by decide) ?_
    refine x_aload_n (pc := 10) dX9_taken_10 rfl rfl ?_
    refine x_getr (pc := 11) dX9_taken_11 kf_RX9_12 hG.g_x rfl hG.g_f0 ?_
    refine x_iload_n (pc := 14) dX9_taken_14 rfl rfl ?_
    refine x_callV (pc := 15) (As := [.int _]) dX9_taken_15 km_X6_isBeast kv_X6_isBeast kl_RX9_102 hG.g_nw.1 rfl rfl (by decide) ⟨Nat.le_refl _, Nat.le_refl _⟩ rfl (Nat.le_of_ble_eq_true rfl) (Nat.le_of_ble_eq_true rfl) (c_isBeast hG.g_nw (h.row 2 (by decide)) v6 (fun k hk ek => ⟨rfl, rfl, ?_⟩) (fun h2 => ⟨rfl, rfl, ?_⟩))
    · skip
      have hk : k < V 8 0 := hk
      subst ek
      have k7 := (vb k hk).1
      have q0 := h.row 0 (by decide)
      refine x_if_ne_t (pc := 18) (tgt := 24) dX9_taken_18 (by decide) (by decide) ?_
      refine x_aload_n (pc := 24) dX9_taken_24 rfl rfl ?_
      refine x_getr (pc := 25) dX9_taken_25 kf_RX9_12 hG.g_x rfl hG.g_f0 ?_
      refine x_getr (pc := 28) dX9_taken_28 kf_RX9_105 hG.g_nw.1 rfl hG.g_nw.2.2.2.1 ?_
      refine x_iload_n (pc := 31) dX9_taken_31 rfl rfl ?_
      refine x_callV (pc := 32) (As := [.int _]) dX9_taken_32 km_X5_at kv_X5_at kl_RX9_109 hG.g_nw.2.2.2.2.2.2.2.2.2.2.2.1.1 rfl rfl (by decide) ⟨Nat.le_refl _, Nat.le_refl _⟩ rfl (Nat.le_of_ble_eq_true rfl) (Nat.le_of_ble_eq_true rfl) (c_at (hG.g_nw.2.2.2.2.2.2.2.2.2.2.2.1) (⟨rfl, rfl, ?_⟩))
      rw [show I (nw + 1) 1 = nI (V 8 0) from q0.1, rAt_in (m := V 8 0) hk v6 (by decide), show I (nw + 2) k = nI (V 0 k) from q0.2 k hk]
      refine x_istore_n (pc := 35) (lv' := [(0, .ref lr), (1, .int (nI k)), (2, .int (nI o)), (3, .int (nI (V 0 k)))]) dX9_taken_35 rfl (by decide) rfl ?_
      refine x_iload_n (pc := 36) dX9_taken_36 rfl rfl ?_
      refine x_iload_n (pc := 37) dX9_taken_37 rfl rfl ?_
      refine x_callS (pc := 38) (As := [.int _, .int _]) dX9_taken_38 km_X9_isOneOf ks_X9_isOneOf kl_RX9_323 rfl (by decide) ⟨Nat.le_refl _, Nat.le_refl _⟩ rfl (Nat.le_of_ble_eq_true rfl) (Nat.le_of_ble_eq_true rfl) (c_isOneOf k7 ho (fun hy => ⟨rfl, rfl, ?_⟩) (fun hx => ⟨rfl, rfl, ?_⟩))
      · skip
        refine x_if_eq_f (pc := 41) (tgt := 48) dX9_taken_41 (by decide) (by decide) ?_
        refine x_iload_n (pc := 44) dX9_taken_44 rfl rfl ?_
        refine x_goto (pc := 45) (tgt := 50) dX9_taken_45 (by decide) ?_
        refine x_ireturn (pc := 50) dX9_taken_50 ⟨_, rfl, rfl⟩ ⟨Nat.le_refl _, Nat.le_refl _⟩ ?_
        rw [spTaken_t ho v6 hk hy] at K
        exact K
      · skip
        refine x_if_eq_t (pc := 41) (tgt := 48) dX9_taken_41 (by decide) (by decide) ?_
        refine x_bipush (pc := 48) (v := -12) dX9_taken_48 (by decide) ?_
        refine x_ireturn (pc := 50) dX9_taken_50 ⟨_, rfl, rfl⟩ ⟨Nat.le_refl _, Nat.le_refl _⟩ ?_
        rw [spTaken_f ho v6 hk hx] at K
        exact K
    · skip
      refine x_if_ne_f (pc := 18) (tgt := 24) dX9_taken_18 (by decide) (by decide) ?_
      refine x_bipush (pc := 21) (v := -11) dX9_taken_21 (by decide) ?_
      refine x_ireturn (pc := 23) dX9_taken_23 ⟨_, rfl, rfl⟩ ⟨Nat.le_refl _, Nat.le_refl _⟩ ?_
      rw [spTaken_b ho h2] at K
      exact K
  · skip
    refine x_if_ne_f (pc := 4) (tgt := 10) dX9_taken_4 (by decide) (by decide) ?_
    refine x_bipush (pc := 7) (v := -2) dX9_taken_7 (by decide) ?_
    refine x_ireturn (pc := 9) dX9_taken_9 ⟨_, rfl, rfl⟩ ⟨Nat.le_refl _, Nat.le_refl _⟩ ?_
    rw [spTaken_k h1] at K
    exact K

set_option maxHeartbeats 4000000 in
set_option maxRecDepth 100000 in
theorem m_taken {T : xT} {n : Nat} {sh : Nat → Nat × Nat} {I : xI} {R : xR} {L : xL} {P : xPost} {M : Nat} (hM : xModel sh R M) {V : xV} {B : Nat} (h : MDV I M V) (hv : VOK V B) {x y : Int32} (K : P (n, sh, 0, 0) I R L (some (.int (spTaken V x y))))  : XM T zX10_taken 2 [.ref M, .int x, .int y] n sh I R L P := by
  obtain ⟨v6, v12, v10, vb, vf, vw, vm, vta, vte, vod, vrg, vdi⟩ := id hv
  refine x_aload_n (pc := 0) dX10_taken_0 rfl rfl ?_
  refine x_iload_n (pc := 1) dX10_taken_1 rfl rfl ?_
  refine x_iconst (pc := 2) (v := 0) dX10_taken_2 (by decide) ?_
  refine x_bipush (pc := 3) (v := 6) dX10_taken_3 (by decide) ?_
  refine x_callV (pc := 5) (As := [.int _, .int _, .int _]) dX10_taken_5 km_X10_in kv_X10_in kl_RX10_231 hM.s rfl rfl (by decide) ⟨Nat.le_refl _, Nat.le_refl _⟩ rfl (Nat.le_of_ble_eq_true rfl) (Nat.le_of_ble_eq_true rfl) (m_in hM.s (fun a1 a2 => ⟨rfl, rfl, ?_⟩) (fun h1 => ⟨rfl, rfl, ?_⟩))
  · skip
    obtain ⟨o, ho, eo⟩ := c_isKind_k a1 a2
    subst eo
    refine x_if_ne_t (pc := 8) (tgt := 14) dX10_taken_8 (by decide) (by decide) ?_
    refine x_aload_n (pc := 14) dX10_taken_14 rfl rfl ?_
    refine x_iload_n (pc := 15) dX10_taken_15 rfl rfl ?_
    refine x_callV (pc := 16) (As := [.int _]) dX10_taken_16 km_X10_isBeast kv_X10_isBeast kl_RX10_246 hM.s rfl rfl (by decide) ⟨Nat.le_refl _, Nat.le_refl _⟩ rfl (Nat.le_of_ble_eq_true rfl) (Nat.le_of_ble_eq_true rfl) (m_isBeast hM h.1 v6 (fun k hk ek => ⟨rfl, rfl, ?_⟩) (fun h2 => ⟨rfl, rfl, ?_⟩))
    · skip
      subst ek
      have k7 := (vb k hk).1
      have iff := isOne_is _ k7 _ ho
      refine x_if_ne_t (pc := 19) (tgt := 25) dX10_taken_19 (by decide) (by decide) ?_
      refine x_aload_n (pc := 25) dX10_taken_25 rfl rfl ?_
      refine x_getr (pc := 26) dX10_taken_26 kf_RX10_22 hM.s rfl hM.f0 ?_
      refine x_iload_n (pc := 29) dX10_taken_29 rfl rfl ?_
      refine x_ialdn (pc := 30) (a := k) dX10_taken_30 hM.s0 (by omega) (by omega) ?_
      rw [show I (M + 1) k = nI (V 0 k) from h.2.2.2.2.2.2.2.1 0 (by decide) k hk]
      refine x_istore_n (pc := 31) (lv' := [(0, .ref M), (1, .int (nI k)), (2, .int (nI o)), (3, .int (nI (V 0 k)))]) dX10_taken_31 rfl (by decide) rfl ?_
      refine x_iload_n (pc := 32) dX10_taken_32 rfl rfl ?_
      refine x_ifn_eq (pc := 33) (tgt := 67) (a := o) dX10_taken_33 (by decide) (by omega) (fun c33 => ?_) (fun c33 => ?_)
      · skip
        refine x_iload_n (pc := 67) dX10_taken_67 rfl rfl ?_
        refine x_goto (pc := 68) (tgt := 73) dX10_taken_68 (by decide) ?_
        refine x_ireturn (pc := 73) dX10_taken_73 ⟨_, rfl, rfl⟩ ⟨Nat.le_refl _, Nat.le_refl _⟩ ?_
        rw [spTaken_t ho v6 hk (iff.mpr (by omega))] at K
        exact K
      · skip
        refine x_iload_n (pc := 36) dX10_taken_36 rfl rfl ?_
        refine x_iload_n (pc := 37) dX10_taken_37 rfl rfl ?_
        refine x_icmpn_eq (pc := 38) (tgt := 67) (a := (V 0 k)) (b := o) dX10_taken_38 (by decide) (by omega) (by omega) (fun c38 => ?_) (fun c38 => ?_)
        · skip
          refine x_iload_n (pc := 67) dX10_taken_67 rfl rfl ?_
          refine x_goto (pc := 68) (tgt := 73) dX10_taken_68 (by decide) ?_
          refine x_ireturn (pc := 73) dX10_taken_73 ⟨_, rfl, rfl⟩ ⟨Nat.le_refl _, Nat.le_refl _⟩ ?_
          rw [spTaken_t ho v6 hk (iff.mpr (by omega))] at K
          exact K
        · skip
          refine x_iload_n (pc := 41) dX10_taken_41 rfl rfl ?_
          refine x_iconst (pc := 42) (v := 1) dX10_taken_42 (by decide) ?_
          refine x_icmpn_ne (pc := 43) (tgt := 56) (a := o) (b := 1) dX10_taken_43 (by decide) (by omega) (by decide) (fun c43 => ?_) (fun c43 => ?_)
          · skip
            refine x_iload_n (pc := 56) dX10_taken_56 rfl rfl ?_
            refine x_iconst (pc := 57) (v := 2) dX10_taken_57 (by decide) ?_
            refine x_icmpn_ne (pc := 58) (tgt := 71) (a := o) (b := 2) dX10_taken_58 (by decide) (by omega) (by decide) (fun c58 => ?_) (fun c58 => ?_)
            · skip
              refine x_bipush (pc := 71) (v := -12) dX10_taken_71 (by decide) ?_
              refine x_ireturn (pc := 73) dX10_taken_73 ⟨_, rfl, rfl⟩ ⟨Nat.le_refl _, Nat.le_refl _⟩ ?_
              rw [spTaken_f ho v6 hk (Bool.eq_false_iff.mpr (fun q => by have := iff.mp q; omega))] at K
              exact K
            · skip
              refine x_iload_n (pc := 61) dX10_taken_61 rfl rfl ?_
              refine x_bipush (pc := 62) (v := 6) dX10_taken_62 (by decide) ?_
              refine x_icmpn_ne (pc := 64) (tgt := 71) (a := (V 0 k)) (b := 6) dX10_taken_64 (by decide) (by omega) (by decide) (fun c64 => ?_) (fun c64 => ?_)
              · skip
                refine x_bipush (pc := 71) (v := -12) dX10_taken_71 (by decide) ?_
                refine x_ireturn (pc := 73) dX10_taken_73 ⟨_, rfl, rfl⟩ ⟨Nat.le_refl _, Nat.le_refl _⟩ ?_
                rw [spTaken_f ho v6 hk (Bool.eq_false_iff.mpr (fun q => by have := iff.mp q; omega))] at K
                exact K
              · skip
                refine x_iload_n (pc := 67) dX10_taken_67 rfl rfl ?_
                refine x_goto (pc := 68) (tgt := 73) dX10_taken_68 (by decide) ?_
                refine x_ireturn (pc := 73) dX10_taken_73 ⟨_, rfl, rfl⟩ ⟨Nat.le_refl _, Nat.le_refl _⟩ ?_
                rw [spTaken_t ho v6 hk (iff.mpr (by omega))] at K
                exact K
          · skip
            refine x_iload_n (pc := 46) dX10_taken_46 rfl rfl ?_
            refine x_iconst (pc := 47) (v := 4) dX10_taken_47 (by decide) ?_
            refine x_icmpn_eq (pc := 48) (tgt := 67) (a := (V 0 k)) (b := 4) dX10_taken_48 (by decide) (by omega) (by decide) (fun c48 => ?_) (fun c48 => ?_)
            · skip
              refine x_iload_n (pc := 67) dX10_taken_67 rfl rfl ?_
              refine x_goto (pc := 68) (tgt := 73) dX10_taken_68 (by decide) ?_
              refine x_ireturn (pc := 73) dX10_taken_73 ⟨_, rfl, rfl⟩ ⟨Nat.le_refl _, Nat.le_refl _⟩ ?_
              rw [spTaken_t ho v6 hk (iff.mpr (by omega))] at K
              exact K
            · skip
              refine x_iload_n (pc := 51) dX10_taken_51 rfl rfl ?_
              refine x_iconst (pc := 52) (v := 5) dX10_taken_52 (by decide) ?_
              refine x_icmpn_eq (pc := 53) (tgt := 67) (a := (V 0 k)) (b := 5) dX10_taken_53 (by decide) (by omega) (by decide) (fun c53 => ?_) (fun c53 => ?_)
              · skip
                refine x_iload_n (pc := 67) dX10_taken_67 rfl rfl ?_
                refine x_goto (pc := 68) (tgt := 73) dX10_taken_68 (by decide) ?_
                refine x_ireturn (pc := 73) dX10_taken_73 ⟨_, rfl, rfl⟩ ⟨Nat.le_refl _, Nat.le_refl _⟩ ?_
                rw [spTaken_t ho v6 hk (iff.mpr (by omega))] at K
                exact K
              · skip
                refine x_iload_n (pc := 56) dX10_taken_56 rfl rfl ?_
                refine x_iconst (pc := 57) (v := 2) dX10_taken_57 (by decide) ?_
                refine x_icmpn_ne (pc := 58) (tgt := 71) (a := o) (b := 2) dX10_taken_58 (by decide) (by omega) (by decide) (fun c58 => ?_) (fun c58 => ?_)
                · skip
                  refine x_bipush (pc := 71) (v := -12) dX10_taken_71 (by decide) ?_
                  refine x_ireturn (pc := 73) dX10_taken_73 ⟨_, rfl, rfl⟩ ⟨Nat.le_refl _, Nat.le_refl _⟩ ?_
                  rw [spTaken_f ho v6 hk (Bool.eq_false_iff.mpr (fun q => by have := iff.mp q; omega))] at K
                  exact K
                · skip
                  refine x_iload_n (pc := 61) dX10_taken_61 rfl rfl ?_
                  refine x_bipush (pc := 62) (v := 6) dX10_taken_62 (by decide) ?_
                  refine x_icmpn_ne (pc := 64) (tgt := 71) (a := (V 0 k)) (b := 6) dX10_taken_64 (by decide) (by omega) (by decide) (fun c64 => ?_) (fun c64 => ?_)
                  · skip
                    refine x_bipush (pc := 71) (v := -12) dX10_taken_71 (by decide) ?_
                    refine x_ireturn (pc := 73) dX10_taken_73 ⟨_, rfl, rfl⟩ ⟨Nat.le_refl _, Nat.le_refl _⟩ ?_
                    rw [spTaken_f ho v6 hk (Bool.eq_false_iff.mpr (fun q => by have := iff.mp q; omega))] at K
                    exact K
                  · skip
                    refine x_iload_n (pc := 67) dX10_taken_67 rfl rfl ?_
                    refine x_goto (pc := 68) (tgt := 73) dX10_taken_68 (by decide) ?_
                    refine x_ireturn (pc := 73) dX10_taken_73 ⟨_, rfl, rfl⟩ ⟨Nat.le_refl _, Nat.le_refl _⟩ ?_
                    rw [spTaken_t ho v6 hk (iff.mpr (by omega))] at K
                    exact K
    · skip
      refine x_if_ne_f (pc := 19) (tgt := 25) dX10_taken_19 (by decide) (by decide) ?_
      refine x_bipush (pc := 22) (v := -11) dX10_taken_22 (by decide) ?_
      refine x_ireturn (pc := 24) dX10_taken_24 ⟨_, rfl, rfl⟩ ⟨Nat.le_refl _, Nat.le_refl _⟩ ?_
      rw [spTaken_b ho h2] at K
      exact K
  · skip
    refine x_if_ne_f (pc := 8) (tgt := 14) dX10_taken_8 (by decide) (by decide) ?_
    refine x_bipush (pc := 11) (v := -2) dX10_taken_11 (by decide) ?_
    refine x_ireturn (pc := 13) dX10_taken_13 ⟨_, rfl, rfl⟩ ⟨Nat.le_refl _, Nat.le_refl _⟩ ?_
    rw [spTaken_k h1] at K
    exact K

