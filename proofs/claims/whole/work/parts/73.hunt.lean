/-! ===== shortest: the class ===== -/
theorem pkN_lt {ce : Nat → Nat} {ta nb : Nat} (ht : ta < 36) (hc : ∀ i, i < nb → ce i < 36) : ∀ k, k ≤ nb → pkN ce ta k < 64 ^ (k + 1)
  | 0, _ => show ta < 64 by omega
  | k + 1, hk => by
    have h1 := pkN_lt ht hc k (by omega)
    have h2 := hc k (by omega)
    have e : 64 ^ (k + 1 + 1) = 64 ^ (k + 1) * 64 := Nat.pow_succ 64 (k + 1)
    show pkN ce ta k * 64 + ce k < 64 ^ (k + 1 + 1)
    omega
theorem pw64_7 {k : Nat} (h : k ≤ 6) : 64 ^ (k + 1) ≤ 64 ^ 7 := Nat.pow_le_pow_right (by decide) (by omega)
theorem pkN_l {ce : Nat → Nat} {ta nb k : Nat} (ht : ta < 36) (hc : ∀ i, i < nb → ce i < 36) (hk : k ≤ nb) (h6 : nb ≤ 6) : pkN ce ta k < 4398046511104 := Nat.lt_of_lt_of_le (pkN_lt ht hc k hk) (Nat.le_trans (pw64_7 (by omega)) (by decide))
theorem or_lo {a c : Nat} (hc : c < 64) : (a * 64) ||| c = a * 64 + c := by
  have := Nat.two_pow_add_eq_or_of_lt (i := 6) (b := c) hc a
  rw [Nat.mul_comm a 64]
  exact this.symm
theorem sh_or {a c : Nat} (ha : a < 2 ^ 50) (hc : c < 64) : xlshl (lN a) 6 ||| (nI c).toInt64 = lN (a * 64 + c) := by
  unfold xlshl
  rw [show lN a <<< ((6 : Int32).toInt64 &&& 63) = lN (a * 2 ^ 6) from wb_shl a (k := 6) (by decide), nI_i64 (by omega), show a * 2 ^ 6 = a * 64 from rfl, wb_or (by omega) (by omega), or_lo hc]
theorem lN_i32 {c : Nat} (h : c < 2 ^ 31) : (lN c).toInt32 = nI c := Int32.toInt_inj.mp (by
  rw [Int64.toInt_toInt32, pk_lT (by omega), nI_toInt h]
  exact Int.bmod_eq_of_le (by omega) (by omega))
theorem lo6 {a : Nat} (ha : a < 2 ^ 63) : (lN a &&& 63).toInt32 = nI (a % 64) := by
  rw [show lN a &&& 63 = lN (a % 2 ^ 6) from wb_mask (k := 6) (by omega) (by decide)]
  have : a % 2 ^ 6 < 64 := Nat.mod_lt _ (by decide)
  exact lN_i32 (by omega)
theorem hi6 {a : Nat} (ha : a < 2 ^ 63) : xlushr (lN a) 6 = lN (a / 64) := wb_shr (k := 6) (by omega) (by decide)
theorem nI_or {a b : Nat} (ha : a < 2 ^ 31) (hb : b < 2 ^ 31) : nI a ||| nI b = nI (a ||| b) := by
  apply Int32.toBitVec.inj
  show BitVec.ofNat 32 a ||| BitVec.ofNat 32 b = BitVec.ofNat 32 (a ||| b)
  apply BitVec.eq_of_toNat_eq
  rw [BitVec.toNat_or, BitVec.toNat_ofNat, BitVec.toNat_ofNat, BitVec.toNat_ofNat, Nat.mod_eq_of_lt (by omega), Nat.mod_eq_of_lt (by omega), Nat.mod_eq_of_lt (Nat.or_lt_two_pow (by omega) (by omega))]
theorem ish_or {a c : Nat} (ha : a < 2 ^ 24) (hc : c < 64) : (nI a <<< ((6 : Int32) &&& 31)) ||| nI c = nI (a * 64 + c) := by
  rw [pk_shlN ((6 : Int32) &&& 31) 6 (by decide) (by omega), show a * 2 ^ 6 = a * 64 from rfl, nI_or (by omega) (by omega), or_lo hc]
/-- a walk in one number -/
def cdN (w : List Nat) : Nat := w.foldl (fun a c => a * 64 + c) 0
theorem cdN_s {w : List Nat} {c : Nat} : cdN (w ++ [c]) = cdN w * 64 + c := by
  unfold cdN
  rw [List.foldl_append]
  rfl
theorem cdN_at {w : List Nat} (h5 : w.length ≤ 5) (hc : ∀ c ∈ w, c < 64) {i : Nat} (hi : i < w.length) : cdN w / 64 ^ (w.length - 1 - i) % 64 = w.getD i 0 ∧ cdN w < 2 ^ 30 := by
  rcases w with _|⟨a, _|⟨b, _|⟨c, _|⟨d, _|⟨e, _|⟨f, w⟩⟩⟩⟩⟩⟩
  · exact absurd hi (by simp)
  · have ha := hc a (by simp)
    have hi : i < 1 := hi
    rcases i with _|i
    · rw [show [a].length - 1 - 0 = 0 from rfl, show (64 : Nat) ^ 0 = 1 from by decide]
      show (0 * 64 + a) / 1 % 64 = a ∧ (0 * 64 + a) < 2 ^ 30
      omega
    · omega
  · have ha := hc a (by simp)
    have hb := hc b (by simp)
    have hi : i < 2 := hi
    rcases i with _|_|i
    · rw [show [a, b].length - 1 - 0 = 1 from rfl, show (64 : Nat) ^ 1 = 64 from by decide]
      show ((0 * 64 + a) * 64 + b) / 64 % 64 = a ∧ ((0 * 64 + a) * 64 + b) < 2 ^ 30
      omega
    · rw [show [a, b].length - 1 - (0 + 1) = 0 from rfl, show (64 : Nat) ^ 0 = 1 from by decide]
      show ((0 * 64 + a) * 64 + b) / 1 % 64 = b ∧ ((0 * 64 + a) * 64 + b) < 2 ^ 30
      omega
    · omega
  · have ha := hc a (by simp)
    have hb := hc b (by simp)
    have hcc := hc c (by simp)
    have hi : i < 3 := hi
    rcases i with _|_|_|i
    · rw [show [a, b, c].length - 1 - 0 = 2 from rfl, show (64 : Nat) ^ 2 = 4096 from by decide]
      show (((0 * 64 + a) * 64 + b) * 64 + c) / 4096 % 64 = a ∧ (((0 * 64 + a) * 64 + b) * 64 + c) < 2 ^ 30
      omega
    · rw [show [a, b, c].length - 1 - (0 + 1) = 1 from rfl, show (64 : Nat) ^ 1 = 64 from by decide]
      show (((0 * 64 + a) * 64 + b) * 64 + c) / 64 % 64 = b ∧ (((0 * 64 + a) * 64 + b) * 64 + c) < 2 ^ 30
      omega
    · rw [show [a, b, c].length - 1 - (0 + 1 + 1) = 0 from rfl, show (64 : Nat) ^ 0 = 1 from by decide]
      show (((0 * 64 + a) * 64 + b) * 64 + c) / 1 % 64 = c ∧ (((0 * 64 + a) * 64 + b) * 64 + c) < 2 ^ 30
      omega
    · omega
  · have ha := hc a (by simp)
    have hb := hc b (by simp)
    have hcc := hc c (by simp)
    have hd := hc d (by simp)
    have hi : i < 4 := hi
    rcases i with _|_|_|_|i
    · rw [show [a, b, c, d].length - 1 - 0 = 3 from rfl, show (64 : Nat) ^ 3 = 262144 from by decide]
      show ((((0 * 64 + a) * 64 + b) * 64 + c) * 64 + d) / 262144 % 64 = a ∧ ((((0 * 64 + a) * 64 + b) * 64 + c) * 64 + d) < 2 ^ 30
      omega
    · rw [show [a, b, c, d].length - 1 - (0 + 1) = 2 from rfl, show (64 : Nat) ^ 2 = 4096 from by decide]
      show ((((0 * 64 + a) * 64 + b) * 64 + c) * 64 + d) / 4096 % 64 = b ∧ ((((0 * 64 + a) * 64 + b) * 64 + c) * 64 + d) < 2 ^ 30
      omega
    · rw [show [a, b, c, d].length - 1 - (0 + 1 + 1) = 1 from rfl, show (64 : Nat) ^ 1 = 64 from by decide]
      show ((((0 * 64 + a) * 64 + b) * 64 + c) * 64 + d) / 64 % 64 = c ∧ ((((0 * 64 + a) * 64 + b) * 64 + c) * 64 + d) < 2 ^ 30
      omega
    · rw [show [a, b, c, d].length - 1 - (0 + 1 + 1 + 1) = 0 from rfl, show (64 : Nat) ^ 0 = 1 from by decide]
      show ((((0 * 64 + a) * 64 + b) * 64 + c) * 64 + d) / 1 % 64 = d ∧ ((((0 * 64 + a) * 64 + b) * 64 + c) * 64 + d) < 2 ^ 30
      omega
    · omega
  · have ha := hc a (by simp)
    have hb := hc b (by simp)
    have hcc := hc c (by simp)
    have hd := hc d (by simp)
    have he := hc e (by simp)
    have hi : i < 5 := hi
    rcases i with _|_|_|_|_|i
    · rw [show [a, b, c, d, e].length - 1 - 0 = 4 from rfl, show (64 : Nat) ^ 4 = 16777216 from by decide]
      show (((((0 * 64 + a) * 64 + b) * 64 + c) * 64 + d) * 64 + e) / 16777216 % 64 = a ∧ (((((0 * 64 + a) * 64 + b) * 64 + c) * 64 + d) * 64 + e) < 2 ^ 30
      omega
    · rw [show [a, b, c, d, e].length - 1 - (0 + 1) = 3 from rfl, show (64 : Nat) ^ 3 = 262144 from by decide]
      show (((((0 * 64 + a) * 64 + b) * 64 + c) * 64 + d) * 64 + e) / 262144 % 64 = b ∧ (((((0 * 64 + a) * 64 + b) * 64 + c) * 64 + d) * 64 + e) < 2 ^ 30
      omega
    · rw [show [a, b, c, d, e].length - 1 - (0 + 1 + 1) = 2 from rfl, show (64 : Nat) ^ 2 = 4096 from by decide]
      show (((((0 * 64 + a) * 64 + b) * 64 + c) * 64 + d) * 64 + e) / 4096 % 64 = c ∧ (((((0 * 64 + a) * 64 + b) * 64 + c) * 64 + d) * 64 + e) < 2 ^ 30
      omega
    · rw [show [a, b, c, d, e].length - 1 - (0 + 1 + 1 + 1) = 1 from rfl, show (64 : Nat) ^ 1 = 64 from by decide]
      show (((((0 * 64 + a) * 64 + b) * 64 + c) * 64 + d) * 64 + e) / 64 % 64 = d ∧ (((((0 * 64 + a) * 64 + b) * 64 + c) * 64 + d) * 64 + e) < 2 ^ 30
      omega
    · rw [show [a, b, c, d, e].length - 1 - (0 + 1 + 1 + 1 + 1) = 0 from rfl, show (64 : Nat) ^ 0 = 1 from by decide]
      show (((((0 * 64 + a) * 64 + b) * 64 + c) * 64 + d) * 64 + e) / 1 % 64 = e ∧ (((((0 * 64 + a) * 64 + b) * 64 + c) * 64 + d) * 64 + e) < 2 ^ 30
      omega
    · omega
  · exact absurd h5 (by simp)
theorem cdN_lt : ∀ (w : List Nat), w.length ≤ 4 → (∀ c ∈ w, c < 64) → cdN w < 2 ^ 24 := by
  intro w h hc
  rcases w with _|⟨a, w⟩
  · decide
  · have h1 := cdN_at (w := a :: w) (by simp at h ⊢; omega) hc (i := 0) (by simp)
    rcases w with _|⟨b, _|⟨c, _|⟨d, _|⟨e, w⟩⟩⟩⟩
    · have ha := hc a (by simp)
      show (0 * 64 + a) < 2 ^ 24
      omega
    · have ha := hc a (by simp)
      have hb := hc b (by simp)
      show ((0 * 64 + a) * 64 + b) < 2 ^ 24
      omega
    · have ha := hc a (by simp)
      have hb := hc b (by simp)
      have hcc := hc c (by simp)
      show (((0 * 64 + a) * 64 + b) * 64 + c) < 2 ^ 24
      omega
    · have ha := hc a (by simp)
      have hb := hc b (by simp)
      have hcc := hc c (by simp)
      have hd := hc d (by simp)
      show ((((0 * 64 + a) * 64 + b) * 64 + c) * 64 + d) < 2 ^ 24
      omega
    · exact absurd h (by simp)
def mixF (ce c0 : Nat → Nat) (w : Nat) : Nat → Nat := fun j => if w ≤ j then ce j else c0 j
theorem mixF_s {ce c0 : Nat → Nat} {w : Nat} : (fun j => if j = w then ce w else mixF ce c0 (w + 1) j) = mixF ce c0 w := by
  funext j
  unfold mixF
  by_cases h : j = w
  · rw [if_pos h, if_pos (by omega), h]
  · rw [if_neg h]
    by_cases h2 : w + 1 ≤ j
    · rw [if_pos h2, if_pos (by omega)]
    · rw [if_neg h2, if_neg (by omega)]
theorem SC.cells {sh : Nat → Nat × Nat} {R : xR} {I : xI} {b nb ta te lo : Nat} {ki ve ce ce' sto hu : Nat → Nat} {LN : xLN} (h : SC sh R I b nb ki ve ce sto hu ta te lo LN) (e : ∀ i, i < nb → ce' i = ce i) : SC sh R I b nb ki ve ce' sto hu ta te lo LN := by
  obtain ⟨a1, a2, a3, a4, a5, a6, a7, a8, a9, a10, a11, a12, a13, a14, a15⟩ := h
  exact ⟨a1, a2, a3, a4, ⟨a5.1, fun i hi => by rw [e i hi]; exact a5.2 i hi⟩, a6, a7, fun i hi => by rw [e i hi]; exact a8 i hi, a9, a10, a11, a12, a13, a14, a15⟩

set_option maxHeartbeats 4000000 in
set_option maxRecDepth 100000 in
theorem l_places {T : xT} {n : Nat} {sh : Nat → Nat × Nat} {I : xI} {R : xR} {L : xL} {P : xPost} {b nb ta te lo : Nat} {ki ve ce sto hu : Nat → Nat} {LN : xLN} (h : SC sh R I b nb ki ve ce sto hu ta te lo LN) (K : P (n, sh, 0, 0) I R L (some (.long (lN (pkN ce ta nb)))))  : ∀ (w i : Nat), i + w = nb → X T zX6_places 1 0 0 P 8 [(0, .ref b), (1, .long (lN (pkN ce ta i))), (3, .int (nI i))] [] (n, sh, 0, 0) (I) R L := by
  have hS := h.1
  have h6 := h.2.1
  have q5 := h.2.2.2.2.1
  have hce : ∀ i, i < nb → ce i < 36 := fun i hi => (h.2.2.2.2.2.2.2.1 i hi).2.2.1
  have hta := h.2.2.2.2.2.2.2.2.2.1
  intro w
  induction w with
  | zero =>
    intro i hw
    have hz : i = nb := by omega
    refine x_iload_n (pc := 8) dX6_places_8 rfl rfl ?_
    refine x_aload_n (pc := 9) dX6_places_9 rfl rfl ?_
    refine x_callV (pc := 10) (As := []) dX6_places_10 km_X6_size kv_X6_size kl_RX6_71 hS.1 rfl rfl (by decide) ⟨Nat.le_refl _, Nat.le_refl _⟩ rfl (Nat.le_of_ble_eq_true rfl) (Nat.le_of_ble_eq_true rfl) (c_size hS q5 h6 (⟨rfl, rfl, ?_⟩))
    refine x_icmpn_ge_t (pc := 13) (tgt := 37) (a := i) (b := nb) dX6_places_13 (by decide) (by omega) (by omega) (by omega) ?_
    refine x_lload_n (pc := 37) dX6_places_37 rfl rfl ?_
    refine x_lreturn (pc := 38) dX6_places_38 rfl ⟨Nat.le_refl _, Nat.le_refl _⟩ ?_
    rw [hz]
    exact K
  | succ w ih =>
    intro i hw
    have hi : i < nb := by omega
    refine x_iload_n (pc := 8) dX6_places_8 rfl rfl ?_
    refine x_aload_n (pc := 9) dX6_places_9 rfl rfl ?_
    refine x_callV (pc := 10) (As := []) dX6_places_10 km_X6_size kv_X6_size kl_RX6_71 hS.1 rfl rfl (by decide) ⟨Nat.le_refl _, Nat.le_refl _⟩ rfl (Nat.le_of_ble_eq_true rfl) (Nat.le_of_ble_eq_true rfl) (c_size hS q5 h6 (⟨rfl, rfl, ?_⟩))
    refine x_icmpn_ge_f (pc := 13) (tgt := 37) (a := i) (b := nb) dX6_places_13 (by decide) (by omega) (by omega) (by omega) ?_
    refine x_lload_n (pc := 16) dX6_places_16 rfl rfl ?_
    refine x_bipush (pc := 17) (v := 6) dX6_places_17 (by decide) ?_
    refine x_lshl (pc := 19) dX6_places_19 ?_
    refine x_aload_n (pc := 20) dX6_places_20 rfl rfl ?_
    refine x_getr (pc := 21) dX6_places_21 kf_RX6_23 hS.1 rfl hS.2.2.2.2.2.1 ?_
    refine x_iload_n (pc := 24) dX6_places_24 rfl rfl ?_
    refine x_callV (pc := 25) (As := [.int _]) dX6_places_25 km_X5_at kv_X5_at kl_RX6_89 hS.2.2.2.2.2.2.2.2.2.2.2.2.2.1.1 rfl rfl (by decide) ⟨Nat.le_refl _, Nat.le_refl _⟩ rfl (Nat.le_of_ble_eq_true rfl) (Nat.le_of_ble_eq_true rfl) (c_at (hS.2.2.2.2.2.2.2.2.2.2.2.2.2.1) (⟨rfl, rfl, ?_⟩))
    rw [q5.1, rAt_in (m := nb) hi h6 (by decide), show I (b + 6) i = nI (ce i) from q5.2 i hi]
    have hci := hce i hi
    have hpk := pkN_l hta hce (show i ≤ nb by omega) h6
    refine x_i2l (pc := 28) dX6_places_28 ?_
    refine x_lor (pc := 29) dX6_places_29 ?_
    rw [sh_or (by omega) (by omega)]
    refine x_lstore_n (pc := 30) (lv' := [(0, .ref b), (1, .long (lN (pkN ce ta (i + 1)))), (3, .int (nI i))]) dX6_places_30 rfl (by decide) rfl ?_
    refine x_iinc (pc := 31) (v := nI (i + 1)) (lv' := [(0, .ref b), (1, .long (lN (pkN ce ta (i + 1)))), (3, .int (nI (i + 1)))]) dX6_places_31 rfl (nI_1 _) (by decide) rfl ?_
    refine x_goto (pc := 34) (tgt := 8) dX6_places_34 (by decide) ?_
    exact ih (i + 1) (by omega)

set_option maxHeartbeats 4000000 in
set_option maxRecDepth 100000 in
theorem c_places {T : xT} {n : Nat} {sh : Nat → Nat × Nat} {I : xI} {R : xR} {L : xL} {P : xPost} {b nb ta te lo : Nat} {ki ve ce sto hu : Nat → Nat} {LN : xLN} (h : SC sh R I b nb ki ve ce sto hu ta te lo LN) (K : P (n, sh, 0, 0) I R L (some (.long (lN (pkN ce ta nb)))))  : XM T zX6_places 1 [.ref b] n sh I R L P := by
  have h8 := h.2.2.2.2.2.2.2.2.1
  have hS := h.1
  have hta := h.2.2.2.2.2.2.2.2.2.1
  refine x_aload_n (pc := 0) dX6_places_0 rfl rfl ?_
  refine x_get (pc := 1) dX6_places_1 kf_RX6_41 hS.1 rfl ?_
  rw [h8]
  refine x_i2l (pc := 4) dX6_places_4 ?_
  rw [nI_i64 (by omega)]
  refine x_lstore_n (pc := 5) (lv' := [(0, .ref b), (1, .long (lN ta))]) dX6_places_5 rfl (by decide) rfl ?_
  refine x_iconst (pc := 6) (v := 0) dX6_places_6 (by decide) ?_
  refine x_istore_n (pc := 7) (lv' := [(0, .ref b), (1, .long (lN ta)), (3, .int 0)]) dX6_places_7 rfl (by decide) rfl ?_
  exact l_places h K nb 0 (by omega)

set_option maxHeartbeats 4000000 in
set_option maxRecDepth 100000 in
theorem l_setPl {T : xT} {n : Nat} {sh : Nat → Nat × Nat} {I : xI} {R : xR} {L : xL} {P : xPost} {b nb ta te lo : Nat} {ki ve ce sto hu : Nat → Nat} {LN : xLN} {c0 : Nat → Nat} {t0 : Nat} {zz : Int64} (hta : ta < 36) (hce : ∀ i, i < nb → ce i < 36) (K : ∀ J : xI, SC sh R J b nb ki ve ce sto hu ta te lo LN → scFr b I J → P (n, sh, 0, 0) J R L none)  : ∀ (w i : Nat), i + w = nb → ∀ (J : xI), SC sh R J b nb ki ve (mixF ce c0 w) sto hu t0 te lo LN → scFr b I J → X T zX6_setPlaces 1 0 0 P 10 [(0, .ref b), (1, .long zz), (3, .long (lN (pkN ce ta w))), (5, .int (nI w - 1))] [] (n, sh, 0, 0) (J) R L := by
  intro w
  induction w with
  | zero =>
    intro i hw J hj fj
    have hz : i = nb := by omega
    have hS := hj.1
    refine x_iload (pc := 10) dX6_setPlaces_10 rfl ?_
    refine x_if_lt_t (pc := 12) (tgt := 41) dX6_setPlaces_12 (by decide) (by decide) ?_
    refine x_aload_n (pc := 41) dX6_setPlaces_41 rfl rfl ?_
    refine x_lload_n (pc := 42) dX6_setPlaces_42 rfl rfl ?_
    refine x_ldc2 (pc := 43) (v := 63) dX6_setPlaces_43 kk_RX6_173 ?_
    refine x_land (pc := 46) dX6_setPlaces_46 ?_
    refine x_l2i (pc := 47) dX6_setPlaces_47 ?_
    rw [lo6 (show pkN ce ta 0 < 2 ^ 63 from Nat.lt_of_lt_of_le hta (by decide)), show pkN ce ta 0 % 64 = ta from Nat.mod_eq_of_lt (Nat.lt_of_lt_of_le hta (by decide))]
    refine x_put (pc := 48) dX6_setPlaces_48 kf_RX6_41 hS.1 rfl (Or.inl kb_6_8) ?_
    refine x_return (pc := 51) dX6_setPlaces_51 rfl ⟨Nat.le_refl _, Nat.le_refl _⟩ ?_
    have h9 := (hj.setTamer (t := ta) hta).cells (ce' := ce) (fun i9 hi9 => (if_pos (by omega)).symm)
    exact K _ h9 (fj.tr (scFr.fld (by decide)))
  | succ w ih =>
    intro i hw J hj fj
    have hi : i < nb := by omega
    have hS := hj.1
    have h6 := hj.2.1
    have hpk := pkN_l hta hce (show w + 1 ≤ nb by omega) h6
    have hcw := hce w (by omega)
    have e1 : pkN ce ta (w + 1) % 64 = ce w := by
      show (pkN ce ta w * 64 + ce w) % 64 = ce w
      omega
    have e2 : pkN ce ta (w + 1) / 64 = pkN ce ta w := by
      show (pkN ce ta w * 64 + ce w) / 64 = pkN ce ta w
      omega
    rw [show nI (w + 1) - 1 = nI w from pk_sub (b := 1) (by omega)]
    refine x_iload (pc := 10) dX6_setPlaces_10 rfl ?_
    refine x_ifn_lt (pc := 12) (a := w) dX6_setPlaces_12 ⟨41, by decide⟩ (by omega) ?_
    refine x_aload_n (pc := 15) dX6_setPlaces_15 rfl rfl ?_
    refine x_getr (pc := 16) dX6_setPlaces_16 kf_RX6_23 hS.1 rfl hS.2.2.2.2.2.1 ?_
    refine x_iload (pc := 19) dX6_setPlaces_19 rfl ?_
    refine x_lload_n (pc := 21) dX6_setPlaces_21 rfl rfl ?_
    refine x_ldc2 (pc := 22) (v := 63) dX6_setPlaces_22 kk_RX6_173 ?_
    refine x_land (pc := 25) dX6_setPlaces_25 ?_
    refine x_l2i (pc := 26) dX6_setPlaces_26 ?_
    rw [lo6 (by omega), e1]
    refine x_callV (pc := 27) (As := [.int _, .int _]) dX6_setPlaces_27 km_X5_put kv_X5_put kl_RX6_92 hS.2.2.2.2.2.2.2.2.2.2.2.2.2.1.1 rfl rfl (by decide) ⟨Nat.le_refl _, Nat.le_refl _⟩ rfl (Nat.le_of_ble_eq_true rfl) (Nat.le_of_ble_eq_true rfl) (c_put (x := nI (ce w)) (m := nb) (hj.1.2.2.2.2.2.2.2.2.2.2.2.2.2.1) hj.2.2.2.2.1.1 (show w < nb by omega) hj.2.1 (⟨rfl, rfl, ?_⟩))
    have hj2 := hj.setCell (i := w) (hce w (by omega))
    rw [mixF_s] at hj2
    have fj2 := fj.tr (@scFr.cell b w (nI (ce w)) J)
    refine x_lload_n (pc := 30) dX6_setPlaces_30 rfl rfl ?_
    refine x_bipush (pc := 31) (v := 6) dX6_setPlaces_31 (by decide) ?_
    refine x_lushr (pc := 33) dX6_setPlaces_33 ?_
    rw [hi6 (by omega), e2]
    refine x_lstore_n (pc := 34) (lv' := [(0, .ref b), (1, .long zz), (3, .long (lN (pkN ce ta w))), (5, .int (nI w))]) dX6_setPlaces_34 rfl (by decide) rfl ?_
    obtain ⟨v35, ev35⟩ : ∃ y : Int32, y = (nI w) + (-1) := ⟨_, rfl⟩
    refine x_iinc (pc := 35) (v := v35) (lv' := [(0, .ref b), (1, .long zz), (3, .long (lN (pkN ce ta w))), (5, .int v35)]) dX6_setPlaces_35 rfl (by rw [ev35]; rfl) (by decide) rfl ?_
    refine x_goto (pc := 38) (tgt := 10) dX6_setPlaces_38 (by decide) ?_
    subst ev35
    rw [dec_eq]
    exact ih (i + 1) (by omega) _ hj2 fj2

set_option maxHeartbeats 4000000 in
set_option maxRecDepth 100000 in
theorem c_setPlaces {T : xT} {n : Nat} {sh : Nat → Nat × Nat} {I : xI} {R : xR} {L : xL} {P : xPost} {b nb ta te lo : Nat} {ki ve ce sto hu : Nat → Nat} {LN : xLN} {c0 : Nat → Nat} {t0 : Nat} (hta : ta < 36) (hce : ∀ i, i < nb → ce i < 36) (K : ∀ J : xI, SC sh R J b nb ki ve ce sto hu ta te lo LN → scFr b I J → P (n, sh, 0, 0) J R L none) (h : SC sh R I b nb ki ve c0 sto hu t0 te lo LN)  : XM T zX6_setPlaces 1 [.ref b, .long (lN (pkN ce ta nb))] n sh I R L P := by
  have hS := h.1
  have h6 := h.2.1
  have q5 := h.2.2.2.2.1
  refine x_lload_n (pc := 0) dX6_setPlaces_0 rfl rfl ?_
  refine x_lstore_n (pc := 1) (lv' := [(0, .ref b), (1, .long (lN (pkN ce ta nb))), (3, .long (lN (pkN ce ta nb)))]) dX6_setPlaces_1 rfl (by decide) rfl ?_
  refine x_aload_n (pc := 2) dX6_setPlaces_2 rfl rfl ?_
  refine x_callV (pc := 3) (As := []) dX6_setPlaces_3 km_X6_size kv_X6_size kl_RX6_71 hS.1 rfl rfl (by decide) ⟨Nat.le_refl _, Nat.le_refl _⟩ rfl (Nat.le_of_ble_eq_true rfl) (Nat.le_of_ble_eq_true rfl) (c_size hS q5 h6 (⟨rfl, rfl, ?_⟩))
  refine x_iconst (pc := 6) (v := 1) dX6_setPlaces_6 (by decide) ?_
  refine x_isub (pc := 7) dX6_setPlaces_7 ?_
  refine x_topi (fun v8 ev8 => ?_)
  refine x_istore (pc := 8) (lv' := [(0, .ref b), (1, .long (lN (pkN ce ta nb))), (3, .long (lN (pkN ce ta nb))), (5, .int v8)]) dX6_setPlaces_8 (by decide) rfl ?_
  subst ev8
  exact l_setPl (zz := lN (pkN ce ta nb)) hta hce K nb 0 (by omega) I (h.cells (fun i hi => if_neg (by omega))) scFr.rf

set_option maxHeartbeats 4000000 in
set_option maxRecDepth 100000 in
theorem c_cellOfWay {T : xT} {n : Nat} {sh : Nat → Nat × Nat} {I : xI} {R : xR} {L : xL} {P : xPost} {ta i : Nat} (ht : ta < 36) (hi : i < 5) (K1 : ∀ c, wyc ta i = some c → P (n, sh, 0, 0) I R L (some (.int (nI c)))) (K2 : wyc ta i = none → P (n, sh, 0, 0) I R L (some (.int (-1))))  : XM T zX1_cellOfWay 1 [.int (nI ta), .int (nI i)] n sh I R L P := by
  refine x_iload_n (pc := 0) dX1_cellOfWay_0 rfl rfl ?_
  refine x_iconst (pc := 1) (v := 2) dX1_cellOfWay_1 (by decide) ?_
  refine x_icmpn_ne (pc := 2) (tgt := 7) (a := i) (b := 2) dX1_cellOfWay_2 (by decide) (by omega) (by decide) (fun c2 => ?_) (fun c2 => ?_)
  · skip
    refine x_iload_n (pc := 7) dX1_cellOfWay_7 rfl rfl ?_
    refine x_iload_n (pc := 8) dX1_cellOfWay_8 rfl rfl ?_
    refine x_iconst (pc := 9) (v := 2) dX1_cellOfWay_9 (by decide) ?_
    refine x_icmpn_ge (pc := 10) (tgt := 17) (a := i) (b := 2) dX1_cellOfWay_10 (by decide) (by omega) (by decide) (fun c10 => ?_) (fun c10 => ?_)
    · skip
      refine x_iload_n (pc := 17) dX1_cellOfWay_17 rfl rfl ?_
      refine x_iconst (pc := 18) (v := 1) dX1_cellOfWay_18 (by decide) ?_
      refine x_isubn (pc := 19) (a := i) (b := 1) dX1_cellOfWay_19 (by omega) ?_
      refine x_callSN (pc := 20) (As := [.int _, .int _]) dX1_cellOfWay_20 km_X9_nextTo ks_X9_nextTo kn_RX1_98 rfl (by decide) ⟨Nat.le_refl _, Nat.le_refl _⟩ rfl (Nat.le_of_ble_eq_true rfl) (Nat.le_of_ble_eq_true rfl) (c_nextTo (c := ta) (s := (i - 1)) ht (by omega) (fun z hz => ⟨rfl, rfl, ?_⟩) (fun hz => ⟨rfl, rfl, ?_⟩))
      · skip
        refine x_ireturn (pc := 23) dX1_cellOfWay_23 ⟨_, rfl, rfl⟩ ⟨Nat.le_refl _, Nat.le_refl _⟩ ?_
        first | exact K1 ta (if_pos c2) | exact K1 z ((if_neg c2).trans (by rw [if_pos (by omega)]; exact hz)) | exact K2 ((if_neg c2).trans (by rw [if_pos (by omega)]; exact hz)) | exact K1 z ((if_neg c2).trans (by rw [if_neg (by omega)]; exact hz)) | exact K2 ((if_neg c2).trans (by rw [if_neg (by omega)]; exact hz))
      · skip
        refine x_ireturn (pc := 23) dX1_cellOfWay_23 ⟨_, rfl, rfl⟩ ⟨Nat.le_refl _, Nat.le_refl _⟩ ?_
        first | exact K1 ta (if_pos c2) | exact K1 z ((if_neg c2).trans (by rw [if_pos (by omega)]; exact hz)) | exact K2 ((if_neg c2).trans (by rw [if_pos (by omega)]; exact hz)) | exact K1 z ((if_neg c2).trans (by rw [if_neg (by omega)]; exact hz)) | exact K2 ((if_neg c2).trans (by rw [if_neg (by omega)]; exact hz))
    · skip
      refine x_iload_n (pc := 13) dX1_cellOfWay_13 rfl rfl ?_
      refine x_goto (pc := 14) (tgt := 20) dX1_cellOfWay_14 (by decide) ?_
      refine x_callSN (pc := 20) (As := [.int _, .int _]) dX1_cellOfWay_20 km_X9_nextTo ks_X9_nextTo kn_RX1_98 rfl (by decide) ⟨Nat.le_refl _, Nat.le_refl _⟩ rfl (Nat.le_of_ble_eq_true rfl) (Nat.le_of_ble_eq_true rfl) (c_nextTo (c := ta) (s := i) ht (by omega) (fun z hz => ⟨rfl, rfl, ?_⟩) (fun hz => ⟨rfl, rfl, ?_⟩))
      · skip
        refine x_ireturn (pc := 23) dX1_cellOfWay_23 ⟨_, rfl, rfl⟩ ⟨Nat.le_refl _, Nat.le_refl _⟩ ?_
        first | exact K1 ta (if_pos c2) | exact K1 z ((if_neg c2).trans (by rw [if_pos (by omega)]; exact hz)) | exact K2 ((if_neg c2).trans (by rw [if_pos (by omega)]; exact hz)) | exact K1 z ((if_neg c2).trans (by rw [if_neg (by omega)]; exact hz)) | exact K2 ((if_neg c2).trans (by rw [if_neg (by omega)]; exact hz))
      · skip
        refine x_ireturn (pc := 23) dX1_cellOfWay_23 ⟨_, rfl, rfl⟩ ⟨Nat.le_refl _, Nat.le_refl _⟩ ?_
        first | exact K1 ta (if_pos c2) | exact K1 z ((if_neg c2).trans (by rw [if_pos (by omega)]; exact hz)) | exact K2 ((if_neg c2).trans (by rw [if_pos (by omega)]; exact hz)) | exact K1 z ((if_neg c2).trans (by rw [if_neg (by omega)]; exact hz)) | exact K2 ((if_neg c2).trans (by rw [if_neg (by omega)]; exact hz))
  · skip
    refine x_iload_n (pc := 5) dX1_cellOfWay_5 rfl rfl ?_
    refine x_ireturn (pc := 6) dX1_cellOfWay_6 ⟨_, rfl, rfl⟩ ⟨Nat.le_refl _, Nat.le_refl _⟩ ?_
    first | exact K1 ta (if_pos c2) | exact K1 z ((if_neg c2).trans (by rw [if_pos (by omega)]; exact hz)) | exact K2 ((if_neg c2).trans (by rw [if_pos (by omega)]; exact hz)) | exact K1 z ((if_neg c2).trans (by rw [if_neg (by omega)]; exact hz)) | exact K2 ((if_neg c2).trans (by rw [if_neg (by omega)]; exact hz))

def xHunt (sh : Nat → Nat × Nat) (R : xR) (hu : Nat) : Prop := sh hu = (0, 1) ∧ R hu 0 = some (hu + 1) ∧ sh (hu + 1) = (3, 781) ∧ R hu 1 = some (hu + 2) ∧ R hu 2 = some (hu + 4) ∧ xRow sh R (hu + 2) (hu + 3) 781 ∧ xRow sh R (hu + 4) (hu + 5) 781
theorem GEO.hunt {sh : Nat → Nat × Nat} {R : xR} {lr nw im tr rd hu se ac M : Nat} (h : GEO sh R lr nw im tr rd hu se ac M) : xHunt sh R hu := ⟨h.g_hu, h.g_hu0, h.g_hul, h.g_hu1, h.g_hu2, h.g_walks, h.g_lengths⟩

/-- the row of scenes that wait -/
def HQ (I : xI) (L : xL) (hu nb : Nat) (q : List xE) : Prop := I (hu + 2) 1 = nI q.length ∧ I (hu + 4) 1 = nI q.length ∧ ∀ j e, q[j]? = some e → L (hu + 1) j = lN (pkN e.1.1 e.1.2 nb) ∧ I (hu + 3) j = nI (cdN e.2) ∧ I (hu + 5) j = nI e.2.length
theorem HQ.keep {I I' : xI} {L L' : xL} {hu nb : Nat} {q : List xE} (h : HQ I L hu nb q) (h2 : I' (hu + 2) = I (hu + 2)) (h3 : I' (hu + 3) = I (hu + 3)) (h4 : I' (hu + 4) = I (hu + 4)) (h5 : I' (hu + 5) = I (hu + 5)) (hL : L' (hu + 1) = L (hu + 1)) : HQ I' L' hu nb q := by
  unfold HQ
  rw [h2, h3, h4, h5, hL]
  exact h
theorem HQ.add {I : xI} {L : xL} {hu nb : Nat} {q : List xE} {s : xS} {w : List Nat} {x : Int32} (h : HQ I L hu nb q) (hx : x = nI (cdN w)) : HQ (up2 (up2 (up2 (up2 I (hu + 3) q.length x) (hu + 2) 1 (nI (q.length + 1))) (hu + 5) q.length (nI w.length)) (hu + 4) 1 (nI (q.length + 1))) (up2 L (hu + 1) q.length (lN (pkN s.1 s.2 nb))) hu nb (q ++ [(s, w)]) := by
  subst hx
  obtain ⟨h1, h2, h3⟩ := h
  have el : (q ++ [(s, w)]).length = q.length + 1 := by simp
  refine ⟨?_, ?_, fun j e he => ?_⟩
  · rw [el, up2_row (show hu + 2 ≠ hu + 4 by omega), up2_row (show hu + 2 ≠ hu + 5 by omega), up2_s]
  · rw [el, up2_s]
  · rw [up2_row (show hu + 3 ≠ hu + 4 by omega), up2_row (show hu + 3 ≠ hu + 5 by omega), up2_row (show hu + 3 ≠ hu + 2 by omega), up2_row (show hu + 5 ≠ hu + 4 by omega)]
    by_cases z : j = q.length
    · subst z
      rw [List.getElem?_append_right (Nat.le_refl _), Nat.sub_self] at he
      have := Option.some.inj he
      subst this
      exact ⟨up2_s, up2_s, up2_s⟩
    · have hj : j < q.length := by
        rcases Nat.lt_or_ge j q.length with p | p
        · exact p
        · rw [List.getElem?_eq_none (by rw [el]; omega)] at he
          cases he
      rw [List.getElem?_append_left hj] at he
      obtain ⟨a1, a2, a3⟩ := h3 j e he
      rw [up2_k z, up2_k z, up2_k z, up2_row (show hu + 5 ≠ hu + 2 by omega), up2_row (show hu + 5 ≠ hu + 3 by omega)]
      exact ⟨a1, a2, a3⟩
theorem lcmpN {a b : Nat} (ha : a < 2 ^ 63) (hb : b < 2 ^ 63) : lg_cmp (lN a) (lN b) = 0 ↔ a = b := (lg_cmp_eq _ _).trans (pk_lEQ ha hb)

set_option maxHeartbeats 4000000 in
set_option maxRecDepth 100000 in
theorem l_isKept {T : xT} {n : Nat} {sh : Nat → Nat × Nat} {I : xI} {R : xR} {L : xL} {P : xPost} {hu nb p l : Nat} {q : List xE} (hH : xHunt sh R hu) (hq : HQ I L hu nb q) (h6 : nb ≤ 6) (h7 : q.length ≤ 781) (hqe : ∀ e ∈ q, (e.1.2 < 36 ∧ ∀ i, i < nb → e.1.1 i < 36) ∧ e.2.length ≤ 4) (hp : p < 2 ^ 63) (hl : l ≤ 5) (K1 : ikR nb p l q.reverse = true → P (n, sh, 0, 0) I R L (some (.int 1))) (K2 : ikR nb p l q.reverse = false → P (n, sh, 0, 0) I R L (some (.int 0)))  : ∀ (w i : Nat), i + w = q.length → ∀ (A B : List xE), q = A ++ B → A.length = w → ikR nb p l q.reverse = ikR nb p l A.reverse → X T zX1_isKept 1 0 0 P 11 [(0, .ref hu), (1, .long (lN p)), (3, .int (nI l)), (4, .int (nI w - 1))] [] (n, sh, 0, 0) (I) R L := by
  intro w
  induction w with
  | zero =>
    intro i hw A B hab hal inv
    have hz : i = q.length := by omega
    refine x_iload (pc := 11) dX1_isKept_11 rfl ?_
    refine x_if_lt_t (pc := 13) (tgt := 59) dX1_isKept_13 (by decide) (by decide) ?_
    refine x_iconst (pc := 59) (v := 0) dX1_isKept_59 (by decide) ?_
    refine x_ireturn (pc := 60) dX1_isKept_60 ⟨_, rfl, by decide⟩ ⟨Nat.le_refl _, Nat.le_refl _⟩ ?_
    have a0 : A = [] := List.eq_nil_of_length_eq_zero hal
    exact K2 (inv.trans (by rw [a0]; rfl))
  | succ w ih =>
    intro i hw A B hab hal inv
    have hi : i < q.length := by omega
    obtain ⟨A2, e, ha2⟩ : ∃ A2 e, A = A2 ++ [e] := (snoc_ex A).elim (fun z => by rw [z] at hal; exact absurd hal (by simp)) id
    have hal2 : A2.length = w := by
      rw [ha2, List.length_append] at hal
      have : [e].length = 1 := rfl
      omega
    have hrv : A.reverse = e :: A2.reverse := by
      rw [ha2, List.reverse_append]
      rfl
    have hab2 : q = A2 ++ ([e] ++ B) := by rw [hab, ha2, List.append_assoc]
    have hie : q[w]? = some e := by
      rw [hab2, List.getElem?_append_right (by omega), hal2, Nat.sub_self]
      rfl
    have heq : e ∈ q := by
      rw [hab2]
      exact List.mem_append_right _ List.mem_cons_self
    rw [show nI (w + 1) - 1 = nI w from pk_sub (b := 1) (by omega)]
    refine x_iload (pc := 11) dX1_isKept_11 rfl ?_
    refine x_ifn_lt (pc := 13) (a := w) dX1_isKept_13 ⟨59, by decide⟩ (by omega) ?_
    refine x_iload (pc := 16) dX1_isKept_16 rfl ?_
    refine x_aload_n (pc := 18) dX1_isKept_18 rfl rfl ?_
    refine x_getr (pc := 19) dX1_isKept_19 kf_RX1_11 hH.1 rfl hH.2.1 ?_
    refine x_alen (pc := 22) (v := 781) dX1_isKept_22 hH.2.2.1 ⟨by decide, by decide⟩ (by decide) ?_
    refine x_icmpn_ge_f (pc := 23) (tgt := 59) (a := w) (b := 781) dX1_isKept_23 (by decide) (by omega) (by decide) (by omega) ?_
    refine x_aload_n (pc := 26) dX1_isKept_26 rfl rfl ?_
    refine x_getr (pc := 27) dX1_isKept_27 kf_RX1_24 hH.1 rfl hH.2.2.2.2.1 ?_
    refine x_iload (pc := 30) dX1_isKept_30 rfl ?_
    refine x_callV (pc := 32) (As := [.int _]) dX1_isKept_32 km_X5_at kv_X5_at kl_RX1_53 hH.2.2.2.2.2.2.1 rfl rfl (by decide) ⟨Nat.le_refl _, Nat.le_refl _⟩ rfl (Nat.le_of_ble_eq_true rfl) (Nat.le_of_ble_eq_true rfl) (c_at hH.2.2.2.2.2.2 (⟨rfl, rfl, ?_⟩))
    rw [hq.2.1, rAt_in (m := q.length) (by omega) h7 (by decide), (hq.2.2 w e hie).2.2]
    have e4 := (hqe e heq).2
    have e36 := (hqe e heq).1
    have hpe := pkN_l e36.1 e36.2 (Nat.le_refl nb) h6
    refine x_iload_n (pc := 35) dX1_isKept_35 rfl rfl ?_
    refine x_icmpn_ne (pc := 36) (tgt := 59) (a := e.2.length) (b := l) dX1_isKept_36 (by decide) (by omega) (by omega) (fun c36 => ?_) (fun c36 => ?_)
    · skip
      refine x_iconst (pc := 59) (v := 0) dX1_isKept_59 (by decide) ?_
      refine x_ireturn (pc := 60) dX1_isKept_60 ⟨_, rfl, by decide⟩ ⟨Nat.le_refl _, Nat.le_refl _⟩ ?_
      exact K2 (inv.trans (by rw [hrv]; exact ikR_n c36))
    · skip
      refine x_aload_n (pc := 39) dX1_isKept_39 rfl rfl ?_
      refine x_getr (pc := 40) dX1_isKept_40 kf_RX1_11 hH.1 rfl hH.2.1 ?_
      refine x_iload (pc := 43) dX1_isKept_43 rfl ?_
      refine x_laldn (pc := 45) (a := w) dX1_isKept_45 hH.2.2.1 (by omega) (by omega) ?_
      rw [(hq.2.2 w e hie).1]
      refine x_lload_n (pc := 46) dX1_isKept_46 rfl rfl ?_
      refine x_lcmp (pc := 47) dX1_isKept_47 ?_
      refine x_if_ne (pc := 48) (tgt := 53) dX1_isKept_48 (by decide) (fun c48 => ?_) (fun c48 => ?_)
      · skip
        obtain ⟨v53, ev53⟩ : ∃ y : Int32, y = (nI w) + (-1) := ⟨_, rfl⟩
        refine x_iinc (pc := 53) (v := v53) (lv' := [(0, .ref hu), (1, .long (lN p)), (3, .int (nI l)), (4, .int v53)]) dX1_isKept_53 rfl (by rw [ev53]; rfl) (by decide) rfl ?_
        refine x_goto (pc := 56) (tgt := 11) dX1_isKept_56 (by decide) ?_
        subst ev53
        rw [dec_eq]
        exact ih (i + 1) (by omega) A2 ([e] ++ B) hab2 hal2 (inv.trans (by rw [hrv]; exact ikR_s (by omega) (fun z => c48 ((lcmpN (by omega) hp).mpr z))))
      · skip
        refine x_iconst (pc := 51) (v := 1) dX1_isKept_51 (by decide) ?_
        refine x_ireturn (pc := 52) dX1_isKept_52 ⟨_, rfl, by decide⟩ ⟨Nat.le_refl _, Nat.le_refl _⟩ ?_
        exact K1 (inv.trans (by rw [hrv]; exact ikR_y (by omega) ((lcmpN (by omega) hp).mp c48)))

set_option maxHeartbeats 4000000 in
set_option maxRecDepth 100000 in
theorem c_isKept {T : xT} {n : Nat} {sh : Nat → Nat × Nat} {I : xI} {R : xR} {L : xL} {P : xPost} {hu nb p l : Nat} {q : List xE} (hH : xHunt sh R hu) (hq : HQ I L hu nb q) (h6 : nb ≤ 6) (h7 : q.length ≤ 781) (hqe : ∀ e ∈ q, (e.1.2 < 36 ∧ ∀ i, i < nb → e.1.1 i < 36) ∧ e.2.length ≤ 4) (hp : p < 2 ^ 63) (hl : l ≤ 5) (K1 : ikR nb p l q.reverse = true → P (n, sh, 0, 0) I R L (some (.int 1))) (K2 : ikR nb p l q.reverse = false → P (n, sh, 0, 0) I R L (some (.int 0)))  : XM T zX1_isKept 1 [.ref hu, .long (lN p), .int (nI l)] n sh I R L P := by
  refine x_aload_n (pc := 0) dX1_isKept_0 rfl rfl ?_
  refine x_getr (pc := 1) dX1_isKept_1 kf_RX1_20 hH.1 rfl hH.2.2.2.1 ?_
  refine x_get (pc := 4) dX1_isKept_4 kf_RX1_50 hH.2.2.2.2.2.1.1 rfl ?_
  rw [hq.1]
  refine x_iconst (pc := 7) (v := 1) dX1_isKept_7 (by decide) ?_
  refine x_isub (pc := 8) dX1_isKept_8 ?_
  refine x_topi (fun v9 ev9 => ?_)
  refine x_istore (pc := 9) (lv' := [(0, .ref hu), (1, .long (lN p)), (3, .int (nI l)), (4, .int v9)]) dX1_isKept_9 (by decide) rfl ?_
  subst ev9
  exact l_isKept hH hq h6 h7 hqe hp hl K1 K2 q.length 0 (Nat.zero_add _) q [] (List.append_nil q).symm rfl rfl

set_option maxHeartbeats 4000000 in
set_option maxRecDepth 100000 in
theorem c_keepB {T : xT} {n : Nat} {sh : Nat → Nat × Nat} {I : xI} {R : xR} {L : xL} {P : xPost} {hu b nb ta te lo : Nat} {ki ve ce sto hg : Nat → Nat} {LN : xLN} (hH : xHunt sh R hu) (h : SC sh R I b nb ki ve ce sto hg ta te lo LN) {bi l : Nat} {x : Int32} {q : List xE} (hb : bi < nb) (hq : HQ I L hu nb q) (h7 : q.length ≤ 781) (hqe : ∀ e ∈ q, (e.1.2 < 36 ∧ ∀ i, i < nb → e.1.1 i < 36) ∧ e.2.length ≤ 4) (hl : l ≤ 5) (hbb : b + 17 < hu) (hm : rnd (ce bi) (sto bi) + l ≤ 5 → q.length < 781) (K1 : rnd (ce bi) (sto bi) + l ≤ 5 → ikR nb (pkN ce ta nb) l q.reverse = false → P (n, sh, 0, 0) (up2 (up2 (up2 (up2 I (hu + 3) q.length x) (hu + 2) 1 (nI (q.length + 1))) (hu + 5) q.length (nI l)) (hu + 4) 1 (nI (q.length + 1))) R (up2 L (hu + 1) q.length (lN (pkN ce ta nb))) none) (K2 : ¬ rnd (ce bi) (sto bi) + l ≤ 5 → P (n, sh, 0, 0) I R L none) (K3 : rnd (ce bi) (sto bi) + l ≤ 5 → ikR nb (pkN ce ta nb) l q.reverse = true → P (n, sh, 0, 0) I R L none)  : XM T zX1_keep 2 [.ref hu, .ref b, .int (nI bi), .int x, .int (nI l)] n sh I R L P := by
  have hS := h.1
  have h6 := h.2.1
  have q5 := h.2.2.2.2.1
  have q7 := h.2.2.2.2.2.1
  have hcb := (h.2.2.2.2.2.2.2.1 bi hb).2.2.1
  have hsb := (h.2.2.2.2.2.2.2.1 bi hb).2.2.2.1
  have hrn := rnd_lt hcb hsb
  have hpp := pkN_l h.2.2.2.2.2.2.2.2.2.1 (fun i hi => (h.2.2.2.2.2.2.2.1 i hi).2.2.1) (Nat.le_refl nb) h6
  refine x_aload_n (pc := 0) dX1_keep_0 rfl rfl ?_
  refine x_getr (pc := 1) dX1_keep_1 kf_RX1_20 hH.1 rfl hH.2.2.2.1 ?_
  refine x_get (pc := 4) dX1_keep_4 kf_RX1_50 hH.2.2.2.2.2.1.1 rfl ?_
  rw [hq.1]
  refine x_istore (pc := 7) (lv' := [(0, .ref hu), (1, .ref b), (2, .int (nI bi)), (3, .int x), (4, .int (nI l)), (5, .int (nI q.length))]) dX1_keep_7 (by decide) rfl ?_
  refine x_aload_n (pc := 9) dX1_keep_9 rfl rfl ?_
  refine x_getr (pc := 10) dX1_keep_10 kf_RX1_78 hS.1 rfl hS.2.2.2.2.2.1 ?_
  refine x_iload_n (pc := 13) dX1_keep_13 rfl rfl ?_
  refine x_callV (pc := 14) (As := [.int _]) dX1_keep_14 km_X5_at kv_X5_at kl_RX1_53 hS.2.2.2.2.2.2.2.2.2.2.2.2.2.1.1 rfl rfl (by decide) ⟨Nat.le_refl _, Nat.le_refl _⟩ rfl (Nat.le_of_ble_eq_true rfl) (Nat.le_of_ble_eq_true rfl) (c_at (hS.2.2.2.2.2.2.2.2.2.2.2.2.2.1) (⟨rfl, rfl, ?_⟩))
  rw [q5.1, rAt_in (m := nb) hb h6 (by decide), q5.2 bi hb]
  refine x_aload_n (pc := 17) dX1_keep_17 rfl rfl ?_
  refine x_getr (pc := 18) dX1_keep_18 kf_RX1_81 hS.1 rfl hS.2.2.2.2.2.2.1 ?_
  refine x_iload_n (pc := 21) dX1_keep_21 rfl rfl ?_
  refine x_callV (pc := 22) (As := [.int _]) dX1_keep_22 km_X5_at kv_X5_at kl_RX1_53 hS.2.2.2.2.2.2.2.2.2.2.2.2.2.2.1.1 rfl rfl (by decide) ⟨Nat.le_refl _, Nat.le_refl _⟩ rfl (Nat.le_of_ble_eq_true rfl) (Nat.le_of_ble_eq_true rfl) (c_at (hS.2.2.2.2.2.2.2.2.2.2.2.2.2.2.1) (⟨rfl, rfl, ?_⟩))
  rw [q7.1, rAt_in (m := nb) hb h6 (by decide), q7.2 bi hb]
  refine x_callSN (pc := 25) (As := [.int _, .int _]) dX1_keep_25 km_X9_roundOf ks_X9_roundOf kn_RX1_84 rfl (by decide) ⟨Nat.le_refl _, Nat.le_refl _⟩ rfl (Nat.le_of_ble_eq_true rfl) (Nat.le_of_ble_eq_true rfl) (c_roundOf hcb hsb (⟨rfl, rfl, ?_⟩))
  refine x_istore (pc := 28) (lv' := [(0, .ref hu), (1, .ref b), (2, .int (nI bi)), (3, .int x), (4, .int (nI l)), (5, .int (nI q.length)), (6, .int (nI (rnd (ce bi) (sto bi))))]) dX1_keep_28 (by decide) rfl ?_
  refine x_aload_n (pc := 30) dX1_keep_30 rfl rfl ?_
  refine x_callV (pc := 31) (As := []) dX1_keep_31 km_X6_places kv_X6_places kl_RX1_87 hS.1 rfl rfl (by decide) ⟨Nat.le_refl _, Nat.le_refl _⟩ rfl (Nat.le_of_ble_eq_true rfl) (Nat.le_of_ble_eq_true rfl) (c_places h (⟨rfl, rfl, ?_⟩))
  refine x_lstore (pc := 34) (lv' := [(0, .ref hu), (1, .ref b), (2, .int (nI bi)), (3, .int x), (4, .int (nI l)), (5, .int (nI q.length)), (6, .int (nI (rnd (ce bi) (sto bi)))), (7, .long (lN (pkN ce ta nb)))]) dX1_keep_34 (by decide) rfl ?_
  refine x_iload (pc := 36) dX1_keep_36 rfl ?_
  refine x_iconst (pc := 38) (v := 5) dX1_keep_38 (by decide) ?_
  refine x_iload (pc := 39) dX1_keep_39 rfl ?_
  refine x_isubn (pc := 41) (a := 5) (b := l) dX1_keep_41 (hl) ?_
  refine x_icmpn_gt (pc := 42) (tgt := 56) (a := (rnd (ce bi) (sto bi))) (b := (5 - l)) dX1_keep_42 (by decide) (by omega) (by omega) (fun c42 => ?_) (fun c42 => ?_)
  · skip
    refine x_return (pc := 56) dX1_keep_56 rfl ⟨Nat.le_refl _, Nat.le_refl _⟩ ?_
    first | exact K1 (by omega) ik | exact K3 (by omega) ik | exact K2 (by omega)
  · skip
    refine x_aload_n (pc := 45) dX1_keep_45 rfl rfl ?_
    refine x_lload (pc := 46) dX1_keep_46 rfl ?_
    refine x_iload (pc := 48) dX1_keep_48 rfl ?_
    refine x_callV (pc := 50) (As := [.long _, .int _]) dX1_keep_50 km_X1_isKept kv_X1_isKept kl_RX1_91 hH.1 rfl rfl (by decide) ⟨Nat.le_refl _, Nat.le_refl _⟩ rfl (Nat.le_of_ble_eq_true rfl) (Nat.le_of_ble_eq_true rfl) (c_isKept hH hq h6 h7 hqe (by omega) hl (fun ik => ⟨rfl, rfl, ?_⟩) (fun ik => ⟨rfl, rfl, ?_⟩))
    · skip
      refine x_if_eq_f (pc := 53) (tgt := 57) dX1_keep_53 (by decide) (by decide) ?_
      refine x_return (pc := 56) dX1_keep_56 rfl ⟨Nat.le_refl _, Nat.le_refl _⟩ ?_
      first | exact K1 (by omega) ik | exact K3 (by omega) ik | exact K2 (by omega)
    · skip
      have hm9 := hm (by omega)
      refine x_if_eq_t (pc := 53) (tgt := 57) dX1_keep_53 (by decide) (by decide) ?_
      refine x_iload (pc := 57) dX1_keep_57 rfl ?_
      refine x_ifn_lt (pc := 59) (a := q.length) dX1_keep_59 ⟨106, by decide⟩ (by omega) ?_
      refine x_iload (pc := 62) dX1_keep_62 rfl ?_
      refine x_sipush (pc := 64) (v := 781) dX1_keep_64 (by decide) ?_
      refine x_icmpn_ge_f (pc := 67) (tgt := 106) (a := q.length) (b := 781) dX1_keep_67 (by decide) (by omega) (by decide) (by omega) ?_
      refine x_iload (pc := 70) dX1_keep_70 rfl ?_
      refine x_aload_n (pc := 72) dX1_keep_72 rfl rfl ?_
      refine x_getr (pc := 73) dX1_keep_73 kf_RX1_11 hH.1 rfl hH.2.1 ?_
      refine x_alen (pc := 76) (v := 781) dX1_keep_76 hH.2.2.1 ⟨by decide, by decide⟩ (by decide) ?_
      refine x_icmpn_ge_f (pc := 77) (tgt := 106) (a := q.length) (b := 781) dX1_keep_77 (by decide) (by omega) (by decide) (by omega) ?_
      refine x_aload_n (pc := 80) dX1_keep_80 rfl rfl ?_
      refine x_getr (pc := 81) dX1_keep_81 kf_RX1_11 hH.1 rfl hH.2.1 ?_
      refine x_iload (pc := 84) dX1_keep_84 rfl ?_
      refine x_lload (pc := 86) dX1_keep_86 rfl ?_
      refine x_lastn (pc := 88) (a := q.length) dX1_keep_88 hH.2.2.1 (by omega) (by omega) ?_
      refine x_aload_n (pc := 89) dX1_keep_89 rfl rfl ?_
      refine x_getr (pc := 90) dX1_keep_90 kf_RX1_20 hH.1 rfl hH.2.2.2.1 ?_
      refine x_iload_n (pc := 93) dX1_keep_93 rfl rfl ?_
      refine x_callV (pc := 94) (As := [.int _]) dX1_keep_94 km_X5_add kv_X5_add kl_RX1_95 hH.2.2.2.2.2.1.1 rfl rfl (by decide) ⟨Nat.le_refl _, Nat.le_refl _⟩ rfl (Nat.le_of_ble_eq_true rfl) (Nat.le_of_ble_eq_true rfl) (c_add (x := x) (m := q.length) hH.2.2.2.2.2.1 hq.1 hm9 (⟨rfl, rfl, ?_⟩))
      refine x_aload_n (pc := 97) dX1_keep_97 rfl rfl ?_
      refine x_getr (pc := 98) dX1_keep_98 kf_RX1_24 hH.1 rfl hH.2.2.2.2.1 ?_
      refine x_iload (pc := 101) dX1_keep_101 rfl ?_
      refine x_callV (pc := 103) (As := [.int _]) dX1_keep_103 km_X5_add kv_X5_add kl_RX1_95 hH.2.2.2.2.2.2.1 rfl rfl (by decide) ⟨Nat.le_refl _, Nat.le_refl _⟩ rfl (Nat.le_of_ble_eq_true rfl) (Nat.le_of_ble_eq_true rfl) (c_add (x := nI l) (m := q.length) hH.2.2.2.2.2.2 ((congrFun (up2_row (by omega)) 1).trans ((congrFun (up2_row (by omega)) 1).trans hq.2.1)) hm9 (⟨rfl, rfl, ?_⟩))
      refine x_return (pc := 106) dX1_keep_106 rfl ⟨Nat.le_refl _, Nat.le_refl _⟩ ?_
      first | exact K1 (by omega) ik | exact K3 (by omega) ik | exact K2 (by omega)

