/-! ===== walk, film ===== -/
/-- a row of cells grows (j = 6 the walk, 7 the film; its length in V 8 (j - 2)) -/
def spCome (V : xV) (j cap : Nat) (x : Int32) : Int32 × xV := if x = -1 then (0, up2 V 8 (j - 2) 0) else match idx 36 x with
  | none => (-1, V)
  | some c => if V 8 (j - 2) < cap then (nI (V 8 (j - 2) + 1), up2 (up2 V j (V 8 (j - 2)) c) 8 (j - 2) (V 8 (j - 2) + 1)) else (-4, V)
theorem spCome_m {V : xV} {j cap : Nat} : spCome V j cap (-1) = (0, up2 V 8 (j - 2) 0) := if_pos rfl
theorem spCome_n {V : xV} {j cap : Nat} {x : Int32} (h : ¬ x = -1) (h1 : idx 36 x = none) : spCome V j cap x = (-1, V) := by
  unfold spCome
  rw [if_neg h, h1]
theorem spCome_f {V : xV} {j cap k : Nat} (hk : k < 36) (h1 : ¬ V 8 (j - 2) < cap) : spCome V j cap (nI k) = (-4, V) := by
  unfold spCome
  rw [if_neg (nI_nem (by omega)), idx_s hk (by decide)]
  exact if_neg h1
theorem spCome_s {V : xV} {j cap k : Nat} (hk : k < 36) (h1 : V 8 (j - 2) < cap) : spCome V j cap (nI k) = (nI (V 8 (j - 2) + 1), up2 (up2 V j (V 8 (j - 2)) k) 8 (j - 2) (V 8 (j - 2) + 1)) := by
  unfold spCome
  rw [if_neg (nI_nem (by omega)), idx_s hk (by decide)]
  exact if_pos h1

set_option maxHeartbeats 4000000 in
set_option maxRecDepth 100000 in
theorem c_comeTo {T : xT} {n : Nat} {sh : Nat → Nat × Nat} {I : xI} {R : xR} {L : xL} {P : xPost} {r q len m : Nat} {x : Int32} (hw : xRow sh R r q len) (hl : len < 100) (hm : I r 1 = nI m) (hml : m ≤ len) (K1 : x = -1 → P (n, sh, 0, 0) (up2 I r 1 0) R L (some (.int 0))) (K2 : ¬ x = -1 → (x < 0 ∨ 35 < x) → P (n, sh, 0, 0) I R L (some (.int (-1)))) (K3 : ∀ k, k < 36 → x = nI k → ¬ m < len → P (n, sh, 0, 0) I R L (some (.int (-4)))) (K4 : ∀ k, k < 36 → x = nI k → m < len → P (n, sh, 0, 0) (up2 (up2 I q m (nI k)) r 1 (nI (m + 1))) R L (some (.int (nI (m + 1)))))  : XM T zX9_comeTo 2 [.ref r, .int x, .int (nI len)] n sh I R L P := by
  refine x_iload_n (pc := 0) dX9_comeTo_0 rfl rfl ?_
  refine x_iconst (pc := 1) (v := -1) dX9_comeTo_1 (by decide) ?_
  refine x_icmp_ne (pc := 2) (tgt := 11) dX9_comeTo_2 (by decide) (fun c2 => ?_) (fun c2 => ?_)
  · skip
    refine x_iload_n (pc := 11) dX9_comeTo_11 rfl rfl ?_
    refine x_callS (pc := 12) (As := [.int _]) dX9_comeTo_12 km_X9_isCell ks_X9_isCell kl_RX9_78 rfl (by decide) ⟨Nat.le_refl _, Nat.le_refl _⟩ rfl (Nat.le_of_ble_eq_true rfl) (Nat.le_of_ble_eq_true rfl) (c_isCell (fun k hk ek => ⟨rfl, rfl, ?_⟩) (fun h1 => ⟨rfl, rfl, ?_⟩))
    · skip
      subst ek
      refine x_if_ne_t (pc := 15) (tgt := 20) dX9_comeTo_15 (by decide) (by decide) ?_
      refine x_aload_n (pc := 20) dX9_comeTo_20 rfl rfl ?_
      refine x_get (pc := 21) dX9_comeTo_21 kf_RX9_165 hw.1 rfl ?_
      rw [hm]
      refine x_iload_n (pc := 24) dX9_comeTo_24 rfl rfl ?_
      refine x_icmpn_lt (pc := 25) (tgt := 31) (a := m) (b := len) dX9_comeTo_25 (by decide) (by omega) (by omega) (fun c25 => ?_) (fun c25 => ?_)
      · skip
        refine x_aload_n (pc := 31) dX9_comeTo_31 rfl rfl ?_
        refine x_iload_n (pc := 32) dX9_comeTo_32 rfl rfl ?_
        refine x_callV (pc := 33) (As := [.int _]) dX9_comeTo_33 km_X5_add kv_X5_add kl_RX9_167 hw.1 rfl rfl (by decide) ⟨Nat.le_refl _, Nat.le_refl _⟩ rfl (Nat.le_of_ble_eq_true rfl) (Nat.le_of_ble_eq_true rfl) (c_add (x := nI k) hw hm (by omega) (⟨rfl, rfl, ?_⟩))
        refine x_aload_n (pc := 36) dX9_comeTo_36 rfl rfl ?_
        refine x_get (pc := 37) dX9_comeTo_37 kf_RX9_165 hw.1 rfl ?_
        rw [up2_s]
        refine x_ireturn (pc := 40) dX9_comeTo_40 ⟨_, rfl, rfl⟩ ⟨Nat.le_refl _, Nat.le_refl _⟩ ?_
        exact K4 k hk rfl (by omega)
      · skip
        refine x_bipush (pc := 28) (v := -4) dX9_comeTo_28 (by decide) ?_
        refine x_ireturn (pc := 30) dX9_comeTo_30 ⟨_, rfl, rfl⟩ ⟨Nat.le_refl _, Nat.le_refl _⟩ ?_
        exact K3 k hk rfl (by omega)
    · skip
      refine x_if_ne_f (pc := 15) (tgt := 20) dX9_comeTo_15 (by decide) (by decide) ?_
      refine x_iconst (pc := 18) (v := -1) dX9_comeTo_18 (by decide) ?_
      refine x_ireturn (pc := 19) dX9_comeTo_19 ⟨_, rfl, rfl⟩ ⟨Nat.le_refl _, Nat.le_refl _⟩ ?_
      exact K2 c2 h1
  · skip
    refine x_aload_n (pc := 5) dX9_comeTo_5 rfl rfl ?_
    refine x_callV (pc := 6) (As := []) dX9_comeTo_6 km_X5_clear kv_X5_clear kl_RX9_173 hw.1 rfl rfl (by decide) ⟨Nat.le_refl _, Nat.le_refl _⟩ rfl (Nat.le_of_ble_eq_true rfl) (Nat.le_of_ble_eq_true rfl) (c_clear hw (⟨rfl, rfl, ?_⟩))
    refine x_iconst (pc := 9) (v := 0) dX9_comeTo_9 (by decide) ?_
    refine x_ireturn (pc := 10) dX9_comeTo_10 ⟨_, rfl, rfl⟩ ⟨Nat.le_refl _, Nat.le_refl _⟩ ?_
    exact K1 c2

