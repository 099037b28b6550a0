/-! ===== trace ===== -/
/-- the m acts noted, m <= 20 -/
def spTrace (m : Nat) (f : Nat → Nat) (x : Int32) : Int32 := match idx m x with
  | none => -1
  | some k => nI (f k)
theorem spTrace_s {m k : Nat} {f : Nat → Nat} (hk : k < m) (hm : m ≤ 20) : spTrace m f (nI k) = nI (f k) := by
  unfold spTrace
  rw [idx_s hk (by omega)]
theorem spTrace_n {m : Nat} {f : Nat → Nat} {x : Int32} (h : x < 0 ∨ nI m ≤ x) : spTrace m f x = -1 := by
  unfold spTrace
  rw [idx_n h]
theorem rAt_sp {m : Nat} {f : Nat → Nat} {g : Nat → Int32} {x : Int32} (hm : m ≤ 20) (hf : ∀ i, i < m → g i = nI (f i)) : rAt (nI m) 20 g x = spTrace m f x := by
  rcases Decidable.em (x < 0 ∨ nI m ≤ x) with q | q
  · rw [spTrace_n q]
    unfold rAt
    rcases Decidable.em (x < 0) with p | p
    · exact if_pos p
    · rw [if_neg p, if_pos (q.resolve_left p)]
  · obtain ⟨k, hk, rfl⟩ := nI_of (fun p => q (Or.inl p))
    have hkm : k < m := by
      rcases Nat.lt_or_ge k m with p | p
      · exact p
      · exact absurd (Or.inr (nI_le p hk)) q
    rw [spTrace_s hkm hm, rAt_in hkm hm (by decide), hf k hkm]

set_option maxHeartbeats 4000000 in
set_option maxRecDepth 100000 in
theorem c_trace {T : xT} {n : Nat} {sh : Nat → Nat × Nat} {I : xI} {R : xR} {L : xL} {P : xPost} {lr nw im tr rd hu se ac M : Nat} (hG : GEO sh R lr nw im tr rd hu se ac M) {m : Nat} {f : Nat → Nat} {x : Int32} (hm : m ≤ 20) (hr : bRow I (ac + 1) m f) (K : P (n, sh, 0, 0) I R L (some (.int (spTrace m f x))))  : XM T zX9_trace 1 [.ref lr, .int x] n sh I R L P := by
  refine x_aload_n (pc := 0) dX9_trace_0 rfl rfl ?_
  refine x_getr (pc := 1) dX9_trace_1 kf_RX9_62 hG.g_x rfl hG.g_f9 ?_
  refine x_getr (pc := 4) dX9_trace_4 kf_RX9_320 hG.g_ac rfl hG.g_ac0 ?_
  refine x_iload_n (pc := 7) dX9_trace_7 rfl rfl ?_
  refine x_callV (pc := 8) (As := [.int _]) dX9_trace_8 km_X5_at kv_X5_at kl_RX9_109 hG.g_trace.1 rfl rfl (by decide) ⟨Nat.le_refl _, Nat.le_refl _⟩ rfl (Nat.le_of_ble_eq_true rfl) (Nat.le_of_ble_eq_true rfl) (c_at hG.g_trace (⟨rfl, rfl, ?_⟩))
  rw [hr.1, rAt_sp hm hr.2]
  refine x_ireturn (pc := 11) dX9_trace_11 ⟨_, rfl, rfl⟩ ⟨Nat.le_refl _, Nat.le_refl _⟩ ?_
  exact K

