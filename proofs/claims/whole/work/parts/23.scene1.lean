/-! ===== Scene: how it lies, what its rows hold ===== -/
def xScene (sh : Nat → Nat × Nat) (R : xR) (b : Nat) : Prop := sh b = (0, 6) ∧ sh (b + 17) = (0, 2) ∧ R b 13 = some (b + 17) ∧ R b 0 = some (b + 1) ∧ R b 1 = some (b + 3) ∧ R b 2 = some (b + 5) ∧ R b 3 = some (b + 7) ∧ R b 4 = some (b + 9) ∧ R b 5 = some (b + 11) ∧ R b 6 = some (b + 13) ∧ R b 7 = some (b + 15) ∧ xRow sh R (b + 1) (b + 2) 6 ∧ xRow sh R (b + 3) (b + 4) 6 ∧ xRow sh R (b + 5) (b + 6) 6 ∧ xRow sh R (b + 7) (b + 8) 6 ∧ xRow sh R (b + 9) (b + 10) 6 ∧ xRow sh R (b + 11) (b + 12) 6 ∧ xRow sh R (b + 13) (b + 14) 12 ∧ xRow sh R (b + 15) (b + 16) 10
def bRow (I : xI) (r m : Nat) (f : Nat → Nat) : Prop := I r 1 = nI m ∧ ∀ i, i < m → I (r + 1) i = nI (f i)
theorem bRow.keep {I I' : xI} {r m : Nat} {f : Nat → Nat} (h : bRow I r m f) (h1 : I' r = I r) (h2 : I' (r + 1) = I (r + 1)) : bRow I' r m f := ⟨by rw [h1]; exact h.1, fun i hi => by rw [h2]; exact h.2 i hi⟩
def held (nb : Nat) (ce : Nat → Nat) (c : Nat) : Bool := (List.range nb).any (fun i => ce i == c)
theorem held_t {nb : Nat} {ce : Nat → Nat} {c : Nat} : held nb ce c = true ↔ ∃ i, i < nb ∧ ce i = c := by
  unfold held
  rw [List.any_eq_true]
  constructor
  · rintro ⟨i, h1, h2⟩
    exact ⟨i, List.mem_range.mp h1, by simpa using h2⟩
  · rintro ⟨i, h1, h2⟩
    exact ⟨i, List.mem_range.mpr h1, by simpa using h2⟩
theorem held_f {nb : Nat} {ce : Nat → Nat} {c : Nat} (h : ∀ i, i < nb → ¬ ce i = c) : held nb ce c = false := by
  cases hh : held nb ce c with
  | false => rfl
  | true =>
    obtain ⟨i, h1, h2⟩ := held_t.mp hh
    exact absurd h2 (h i h1)
def cnt (p : Nat → Bool) : Nat → Nat
  | 0 => 0
  | i + 1 => cnt p i + (if p i = true then 1 else 0)
theorem cnt_le {p : Nat → Bool} : ∀ i, cnt p i ≤ i
  | 0 => Nat.le_refl 0
  | i + 1 => by
    have h := cnt_le (p := p) i
    unfold cnt
    split <;> omega
def nearP (ce : Nat → Nat) (b : Nat) (o : Nat) : Bool := !(o == b) && decide (far (ce o) (ce b) ≤ 2)
def nearN (nb : Nat) (ce : Nat → Nat) (b : Nat) : Nat := cnt (nearP ce b) nb
def shutP (nb : Nat) (ce : Nat → Nat) (c : Nat) (s : Nat) : Bool := match nxt c s with
  | none => true
  | some z => held nb ce z
def shutN (nb : Nat) (ce : Nat → Nat) (c : Nat) : Nat := cnt (shutP nb ce c) 4
set_option maxHeartbeats 4000000 in
set_option maxRecDepth 100000 in
theorem c_size {T : xT} {n : Nat} {sh : Nat → Nat × Nat} {I : xI} {R : xR} {L : xL} {P : xPost} {b nb : Nat} {ce : Nat → Nat} (hS : xScene sh R b) (hc : bRow I (b + 5) nb ce) (hn6 : nb ≤ 6) (K : P (n, sh, 0, 0) I R L (some (.int (nI nb)))) : XM T zX6_size 0 [.ref b] n sh I R L P := by
  obtain ⟨s0, sl, rl, f0, f1, f2, f3, f4, f5, f6, f7, w0, w1, w2, w3, w4, w5, w6, w7⟩ := hS
  refine x_aload_n (pc := 0) dX6_size_0 rfl rfl ?_
  refine x_getr (pc := 1) dX6_size_1 kf_RX6_23 s0 rfl f2 ?_
  refine x_get (pc := 4) dX6_size_4 kf_RX6_68 w2.1 rfl ?_
  rw [hc.1]
  refine x_ireturn (pc := 7) dX6_size_7 ⟨_, rfl, rfl⟩ ⟨Nat.le_refl _, Nat.le_refl _⟩ ?_
  exact K

set_option maxHeartbeats 4000000 in
set_option maxRecDepth 100000 in
theorem c_isBeast {T : xT} {n : Nat} {sh : Nat → Nat × Nat} {I : xI} {R : xR} {L : xL} {P : xPost} {b nb : Nat} {ce : Nat → Nat} (hS : xScene sh R b) (hc : bRow I (b + 5) nb ce) (hn6 : nb ≤ 6) {x : Int32} (K1 : ∀ k : Nat, k < nb → x = nI k → P (n, sh, 0, 0) I R L (some (.int 1))) (K2 : (x < 0 ∨ nI nb ≤ x) → P (n, sh, 0, 0) I R L (some (.int 0))) : XM T zX6_isBeast 1 [.ref b, .int x] n sh I R L P := by
  have hS0 := hS
  obtain ⟨s0, sl, rl, f0, f1, f2, f3, f4, f5, f6, f7, w0, w1, w2, w3, w4, w5, w6, w7⟩ := hS
  refine x_iload_n (pc := 0) dX6_isBeast_0 rfl rfl ?_
  refine x_if_lt (pc := 1) (tgt := 16) dX6_isBeast_1 (by decide) (fun c1 => ?_) (fun c1 => ?_)
  · skip
    refine x_iconst (pc := 16) (v := 0) dX6_isBeast_16 (by decide) ?_
    refine x_ireturn (pc := 17) dX6_isBeast_17 ⟨_, rfl, by decide⟩ ⟨Nat.le_refl _, Nat.le_refl _⟩ ?_
    exact K2 (by first | exact Or.inl c1 | exact Or.inr c9)
  · skip
    refine x_iload_n (pc := 4) dX6_isBeast_4 rfl rfl ?_
    refine x_aload_n (pc := 5) dX6_isBeast_5 rfl rfl ?_
    refine x_callV (pc := 6) (As := []) dX6_isBeast_6 km_X6_size kv_X6_size kl_RX6_71 s0 rfl rfl (by decide) ⟨Nat.le_refl _, Nat.le_refl _⟩ rfl (Nat.le_of_ble_eq_true rfl) (Nat.le_of_ble_eq_true rfl) (c_size hS0 hc hn6 (⟨rfl, rfl, ?_⟩))
    refine x_icmp_ge (pc := 9) (tgt := 16) dX6_isBeast_9 (by decide) (fun c9 => ?_) (fun c9 => ?_)
    · skip
      refine x_iconst (pc := 16) (v := 0) dX6_isBeast_16 (by decide) ?_
      refine x_ireturn (pc := 17) dX6_isBeast_17 ⟨_, rfl, by decide⟩ ⟨Nat.le_refl _, Nat.le_refl _⟩ ?_
      exact K2 (by first | exact Or.inl c1 | exact Or.inr c9)
    · skip
      refine x_iconst (pc := 12) (v := 1) dX6_isBeast_12 (by decide) ?_
      refine x_goto (pc := 13) (tgt := 17) dX6_isBeast_13 (by decide) ?_
      refine x_ireturn (pc := 17) dX6_isBeast_17 ⟨_, rfl, by decide⟩ ⟨Nat.le_refl _, Nat.le_refl _⟩ ?_
      exact (nI_of c1).elim (fun k h => K1 k (Nat.lt_of_not_le fun q => c9 (by rw [h.2]; exact (nI_leI (by omega) h.1).mpr q)) h.2)

set_option maxHeartbeats 4000000 in
set_option maxRecDepth 100000 in
theorem c_holdsBeast {T : xT} {n : Nat} {sh : Nat → Nat × Nat} {I : xI} {R : xR} {L : xL} {P : xPost} {b nb : Nat} {ce : Nat → Nat} (hS : xScene sh R b) (hc : bRow I (b + 5) nb ce) (hn6 : nb ≤ 6) {x : Nat} (hce : ∀ i, i < nb → ce i < 36) (hx : x < 36) (K1 : held nb ce x = true → P (n, sh, 0, 0) I R L (some (.int 1))) (K2 : held nb ce x = false → P (n, sh, 0, 0) I R L (some (.int 0))) : XM T zX6_holdsBeast 1 [.ref b, .int (nI x)] n sh I R L P := by
  obtain ⟨s0, sl, rl, f0, f1, f2, f3, f4, f5, f6, f7, w0, w1, w2, w3, w4, w5, w6, w7⟩ := hS
  refine x_aload_n (pc := 0) dX6_holdsBeast_0 rfl rfl ?_
  refine x_getr (pc := 1) dX6_holdsBeast_1 kf_RX6_23 s0 rfl f2 ?_
  refine x_iload_n (pc := 4) dX6_holdsBeast_4 rfl rfl ?_
  refine x_callV (pc := 5) (As := [.int _]) dX6_holdsBeast_5 km_X5_placeOf kv_X5_placeOf kl_RX6_81 w2.1 rfl rfl (by decide) ⟨Nat.le_refl _, Nat.le_refl _⟩ rfl (Nat.le_of_ble_eq_true rfl) (Nat.le_of_ble_eq_true rfl) (c_placeOf w2 hc.1 hn6 (fun k hk hkx hkm => ⟨rfl, rfl, ?_⟩) (fun hno => ⟨rfl, rfl, ?_⟩))
  · skip
    refine x_iconst (pc := 8) (v := -1) dX6_holdsBeast_8 (by decide) ?_
    refine x_icmp_eq_f (pc := 9) (tgt := 16) dX6_holdsBeast_9 (by decide) (nI_nem (by omega)) ?_
    refine x_iconst (pc := 12) (v := 1) dX6_holdsBeast_12 (by decide) ?_
    refine x_goto (pc := 13) (tgt := 17) dX6_holdsBeast_13 (by decide) ?_
    refine x_ireturn (pc := 17) dX6_holdsBeast_17 ⟨_, rfl, by decide⟩ ⟨Nat.le_refl _, Nat.le_refl _⟩ ?_
    exact K1 (held_t.mpr ⟨k, hk, (nI_eq (by have := hce k hk; omega) (by omega)).mp ((hc.2 k hk).symm.trans hkx)⟩)
  · skip
    refine x_iconst (pc := 8) (v := -1) dX6_holdsBeast_8 (by decide) ?_
    refine x_icmp_eq_t (pc := 9) (tgt := 16) dX6_holdsBeast_9 (by decide) (by decide) ?_
    refine x_iconst (pc := 16) (v := 0) dX6_holdsBeast_16 (by decide) ?_
    refine x_ireturn (pc := 17) dX6_holdsBeast_17 ⟨_, rfl, by decide⟩ ⟨Nat.le_refl _, Nat.le_refl _⟩ ?_
    exact K2 (held_f fun i hi h => hno i hi (by rw [hc.2 i hi, h]))

set_option maxHeartbeats 4000000 in
set_option maxRecDepth 100000 in
theorem c_isStool {T : xT} {n : Nat} {sh : Nat → Nat × Nat} {I : xI} {R : xR} {L : xL} {P : xPost} {b nb : Nat} {ce : Nat → Nat} (hS : xScene sh R b) (hc : bRow I (b + 7) nb ce) (hn6 : nb ≤ 6) {x : Nat} (hce : ∀ i, i < nb → ce i < 36) (hx : x < 36) (K1 : held nb ce x = true → P (n, sh, 0, 0) I R L (some (.int 1))) (K2 : held nb ce x = false → P (n, sh, 0, 0) I R L (some (.int 0))) : XM T zX6_isStool 1 [.ref b, .int (nI x)] n sh I R L P := by
  obtain ⟨s0, sl, rl, f0, f1, f2, f3, f4, f5, f6, f7, w0, w1, w2, w3, w4, w5, w6, w7⟩ := hS
  refine x_aload_n (pc := 0) dX6_isStool_0 rfl rfl ?_
  refine x_getr (pc := 1) dX6_isStool_1 kf_RX6_26 s0 rfl f3 ?_
  refine x_iload_n (pc := 4) dX6_isStool_4 rfl rfl ?_
  refine x_callV (pc := 5) (As := [.int _]) dX6_isStool_5 km_X5_placeOf kv_X5_placeOf kl_RX6_81 w3.1 rfl rfl (by decide) ⟨Nat.le_refl _, Nat.le_refl _⟩ rfl (Nat.le_of_ble_eq_true rfl) (Nat.le_of_ble_eq_true rfl) (c_placeOf w3 hc.1 hn6 (fun k hk hkx hkm => ⟨rfl, rfl, ?_⟩) (fun hno => ⟨rfl, rfl, ?_⟩))
  · skip
    refine x_iconst (pc := 8) (v := -1) dX6_isStool_8 (by decide) ?_
    refine x_icmp_eq_f (pc := 9) (tgt := 16) dX6_isStool_9 (by decide) (nI_nem (by omega)) ?_
    refine x_iconst (pc := 12) (v := 1) dX6_isStool_12 (by decide) ?_
    refine x_goto (pc := 13) (tgt := 17) dX6_isStool_13 (by decide) ?_
    refine x_ireturn (pc := 17) dX6_isStool_17 ⟨_, rfl, by decide⟩ ⟨Nat.le_refl _, Nat.le_refl _⟩ ?_
    exact K1 (held_t.mpr ⟨k, hk, (nI_eq (by have := hce k hk; omega) (by omega)).mp ((hc.2 k hk).symm.trans hkx)⟩)
  · skip
    refine x_iconst (pc := 8) (v := -1) dX6_isStool_8 (by decide) ?_
    refine x_icmp_eq_t (pc := 9) (tgt := 16) dX6_isStool_9 (by decide) (by decide) ?_
    refine x_iconst (pc := 16) (v := 0) dX6_isStool_16 (by decide) ?_
    refine x_ireturn (pc := 17) dX6_isStool_17 ⟨_, rfl, by decide⟩ ⟨Nat.le_refl _, Nat.le_refl _⟩ ?_
    exact K2 (held_f fun i hi h => hno i hi (by rw [hc.2 i hi, h]))

