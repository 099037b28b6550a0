/-! ===== calm: the class ===== -/
theorem SC.setLoud {sh : Nat → Nat × Nat} {R : xR} {I : xI} {b nb ta te lo : Nat} {ki ve ce sto hu : Nat → Nat} {LN : xLN} {t : Nat} (h : SC sh R I b nb ki ve ce sto hu ta te lo LN) (ht : t < 100) : SC sh R (up2 I b 12 (nI t)) b nb ki ve ce sto hu ta te t LN := by
  obtain ⟨a1, a2, a3, a4, a5, a6, a7, a8, a9, a10, a11, a12, a13, a14, a15⟩ := h
  have k : ∀ j, 0 < j → up2 I b 12 (nI t) (b + j) = I (b + j) := fun j hj => up2_row (by omega)
  refine ⟨a1, a2, a3.keep (k 1 (by omega)) (k 2 (by omega)), a4.keep (k 3 (by omega)) (k 4 (by omega)), a5.keep (k 5 (by omega)) (k 6 (by omega)), a6.keep (k 7 (by omega)) (k 8 (by omega)), a7.keep (k 9 (by omega)) (k 10 (by omega)), a8, by rw [up2_k (by decide)]; exact a9, a10, by rw [up2_k (by decide)]; exact a11, a12, up2_s, ht, a15.keep2 (fun a ha => up2_row (fun q => ?_))⟩
  rw [q, a1.1] at ha
  rcases ha with ha | ha <;> cases ha
theorem loudA_lt {ar : xAR} (h : ∀ c, c < ar.1 → ar.2.2.1 c < 100) : ∀ k, k ≤ ar.1 → loudA ar k < 100
  | 0, _ => show 1 < 100 by decide
  | k + 1, hk => by
    show (if ar.2.1 k = 2 then ar.2.2.1 k else loudA ar k) < 100
    split
    · exact h k (by omega)
    · exact loudA_lt h k (by omega)
/-- thunder by the bits of t -/
def cmL (o : Option xAR) (t i : Nat) : Nat := if bget t i = 1 then loudO o else 0
def cmF (V : xV) (o : Option xAR) (t : Nat) : Nat → Nat → Nat
  | 0 => V 2
  | i + 1 => tenthF (V 8 0) (V 0) (V 1) (cmF V o t i) (V 3) (V 4) (V 8 1) (V 8 2 + i) (cmL o t i) (lnO o) (V 8 0)
def cmP (V : xV) (o : Option xAR) (t m : Nat) : Bool := decide (∀ k, k < m → held (V 8 0) (cmF V o t (k + 1)) (V 8 1) = false)
def wtF (od t : Nat) : Nat → Nat
  | 0 => 1
  | i + 1 => wtF od t i * (if bget t i = 1 then od else 10 - od)
def pop (t : Nat) : Nat := bget t 0 + bget t 1 + bget t 2 + bget t 3 + bget t 4 + bget t 5
theorem pop_le : ∀ m, m < 7 → ∀ t, t < 64 → (t < 2 ^ m → pop t ≤ m) := by decide +kernel
theorem wt_eq : ∀ od, od < 11 → ∀ m, m < 7 → ∀ t, t < 64 → (t < 2 ^ m → od ^ pop t * (10 - od) ^ (m - pop t) = wtF od t m) := by decide +kernel
theorem wt_le : ∀ od, od < 11 → ∀ m, m < 7 → ∀ t, t < 64 → wtF od t m ≤ 1000000 := by decide +kernel
def cmS (V : xV) (o : Option xAR) (m j : Nat) : Nat := if cmP V o j m = true then wtF (V 8 3) j m else 0
def abF (V : xV) (o : Option xAR) (m : Nat) : Nat → Nat
  | 0 => 0
  | j + 1 => abF V o m j + cmS V o m j
theorem cmS_le {V : xV} {o : Option xAR} {m j : Nat} (hod : V 8 3 ≤ 10) (hm : m < 7) (hj : j < 64) : cmS V o m j ≤ 1000000 := by
  unfold cmS
  split
  · exact wt_le _ (by omega) m hm j hj
  · omega
theorem abF_le {V : xV} {o : Option xAR} {m : Nat} (hod : V 8 3 ≤ 10) (hm : m < 7) : ∀ j, j ≤ 64 → abF V o m j ≤ 1000000 * j
  | 0, _ => Nat.le_refl 0
  | j + 1, hj => by
    have h1 := abF_le (o := o) hod hm j (by omega)
    have h2 := cmS_le (o := o) (m := m) (j := j) hod hm (by omega)
    show abF V o m j + cmS V o m j ≤ _
    omega
def spCalm (V : xV) (o : Option xAR) (x y : Int32) : Int64 := if (x < 1 ∨ 6 < x) ∨ (y < 0 ∨ 1 < y) then -9223372036854775808 else
  lN ((if y = 0 then abF V o x.toNatClampNeg (2 ^ x.toNatClampNeg) else 10 ^ x.toNatClampNeg) / Nat.gcd (10 ^ x.toNatClampNeg) (abF V o x.toNatClampNeg (2 ^ x.toNatClampNeg)))
theorem spCalm_n {V : xV} {o : Option xAR} {x y : Int32} (h : (x < 1 ∨ 6 < x) ∨ (y < 0 ∨ 1 < y)) : spCalm V o x y = -9223372036854775808 := if_pos h
theorem m16 {m : Nat} (h1 : 1 ≤ m) (h6 : m ≤ 6) : ¬ (nI m < 1 ∨ 6 < nI m) := fun q => q.elim (fun q => nI_ge (a := 0) h1 (by omega) (by have := Int32.lt_iff_toInt_lt.mp q; rw [nI_toInt (by omega)] at this; exact absurd this (by have : (1 : Int32).toInt = 1 := rfl; omega))) (fun q => absurd ((nI_ltI (a := 6) (b := m) (by decide) (by omega)).mp q) (by omega))
theorem spCalm_0 {V : xV} {o : Option xAR} {m : Nat} (h1 : 1 ≤ m) (h6 : m ≤ 6) : spCalm V o (nI m) 0 = lN (abF V o m (2 ^ m) / Nat.gcd (10 ^ m) (abF V o m (2 ^ m))) := by
  unfold spCalm
  rw [if_neg (fun q => q.elim (m16 h1 h6) (fun q => q.elim (by decide) (by decide))), nI_clamp (by omega), if_pos rfl]
theorem spCalm_1 {V : xV} {o : Option xAR} {m : Nat} (h1 : 1 ≤ m) (h6 : m ≤ 6) : spCalm V o (nI m) 1 = lN (10 ^ m / Nat.gcd (10 ^ m) (abF V o m (2 ^ m))) := by
  unfold spCalm
  rw [if_neg (fun q => q.elim (m16 h1 h6) (fun q => q.elim (by decide) (by decide))), nI_clamp (by omega), if_neg (by decide)]
theorem m1_k {x : Int32} (h1 : ¬ x < 1) (h2 : ¬ 6 < x) : ∃ m : Nat, 1 ≤ m ∧ m ≤ 6 ∧ x = nI m := by
  obtain ⟨m, hm9, em⟩ := nI_of (fun q : x < 0 => h1 (Int32.lt_iff_toInt_lt.mpr (by have := Int32.lt_iff_toInt_lt.mp q; have e1 : (1 : Int32).toInt = 1 := rfl; have e0 : (0 : Int32).toInt = 0 := rfl; omega)))
  subst em
  refine ⟨m, Nat.pos_of_ne_zero (fun q => h1 (by rw [q]; decide)), Nat.le_of_not_lt (fun q => h2 ((nI_ltI (a := 6) (by decide) hm9).mpr q)), rfl⟩
theorem sh1 : ∀ m, m < 7 → (1 : Int32) <<< (nI m &&& 31) = nI (2 ^ m) := by decide +kernel
theorem pw64 {m : Nat} (h : m ≤ 6) : 2 ^ m ≤ 64 := (Nat.pow_le_pow_right (by decide) h : 2 ^ m ≤ 2 ^ 6)
theorem pw10 {m : Nat} (h : m ≤ 6) : 10 ^ m ≤ 1000000 := (Nat.pow_le_pow_right (by decide) h : 10 ^ m ≤ 10 ^ 6)
theorem nI_i64 {a : Nat} (h : a < 2 ^ 31) : (nI a).toInt64 = lN a := Int64.toInt.inj (by rw [Int32.toInt_toInt64, nI_toInt h, pk_lT (by omega)])
def bcF (x : Int32) : Int32 :=
  let a := x - (xushr x 1 &&& 1431655765)
  let b := (a &&& 858993459) + (xushr a 2 &&& 858993459)
  let c := (b + xushr b 4) &&& 252645135
  let d := c + xushr c 8
  let e := d + xushr d 16
  e &&& 63
theorem bcF_eq : ∀ t, t < 64 → bcF (nI t) = nI (pop t) := by decide +kernel

set_option maxHeartbeats 4000000 in
set_option maxRecDepth 100000 in
theorem c_bitCount {T : xT} {n : Nat} {sh : Nat → Nat × Nat} {I : xI} {R : xR} {L : xL} {P : xPost} {t : Nat} (ht : t < 64) (K : P (n, sh, 0, 0) I R L (some (.int (nI (pop t)))))  : XM T zJ6_bitCount_0f7a4 0 [.int (nI t)] n sh I R L P := by
  refine x_iload_n (pc := 0) dJ6_bitCount_0f7a4_0 rfl rfl ?_
  refine x_iload_n (pc := 1) dJ6_bitCount_0f7a4_1 rfl rfl ?_
  refine x_iconst (pc := 2) (v := 1) dJ6_bitCount_0f7a4_2 (by decide) ?_
  refine x_iushr (pc := 3) dJ6_bitCount_0f7a4_3 ?_
  refine x_ldcw (pc := 4) (v := 1431655765) dJ6_bitCount_0f7a4_4 kk_RJ6_265 ?_
  refine x_iand (pc := 7) dJ6_bitCount_0f7a4_7 ?_
  refine x_isub (pc := 8) dJ6_bitCount_0f7a4_8 ?_
  refine x_topi (fun v9 ev9 => ?_)
  refine x_istore_n (pc := 9) (lv' := [(0, .int v9)]) dJ6_bitCount_0f7a4_9 rfl (by decide) rfl ?_
  refine x_iload_n (pc := 10) dJ6_bitCount_0f7a4_10 rfl rfl ?_
  refine x_ldcw (pc := 11) (v := 858993459) dJ6_bitCount_0f7a4_11 kk_RJ6_266 ?_
  refine x_iand (pc := 14) dJ6_bitCount_0f7a4_14 ?_
  refine x_iload_n (pc := 15) dJ6_bitCount_0f7a4_15 rfl rfl ?_
  refine x_iconst (pc := 16) (v := 2) dJ6_bitCount_0f7a4_16 (by decide) ?_
  refine x_iushr (pc := 17) dJ6_bitCount_0f7a4_17 ?_
  refine x_ldcw (pc := 18) (v := 858993459) dJ6_bitCount_0f7a4_18 kk_RJ6_266 ?_
  refine x_iand (pc := 21) dJ6_bitCount_0f7a4_21 ?_
  refine x_iadd (pc := 22) dJ6_bitCount_0f7a4_22 ?_
  refine x_topi (fun v23 ev23 => ?_)
  refine x_istore_n (pc := 23) (lv' := [(0, .int v23)]) dJ6_bitCount_0f7a4_23 rfl (by decide) rfl ?_
  refine x_iload_n (pc := 24) dJ6_bitCount_0f7a4_24 rfl rfl ?_
  refine x_iload_n (pc := 25) dJ6_bitCount_0f7a4_25 rfl rfl ?_
  refine x_iconst (pc := 26) (v := 4) dJ6_bitCount_0f7a4_26 (by decide) ?_
  refine x_iushr (pc := 27) dJ6_bitCount_0f7a4_27 ?_
  refine x_iadd (pc := 28) dJ6_bitCount_0f7a4_28 ?_
  refine x_ldcw (pc := 29) (v := 252645135) dJ6_bitCount_0f7a4_29 kk_RJ6_267 ?_
  refine x_iand (pc := 32) dJ6_bitCount_0f7a4_32 ?_
  refine x_topi (fun v33 ev33 => ?_)
  refine x_istore_n (pc := 33) (lv' := [(0, .int v33)]) dJ6_bitCount_0f7a4_33 rfl (by decide) rfl ?_
  refine x_iload_n (pc := 34) dJ6_bitCount_0f7a4_34 rfl rfl ?_
  refine x_iload_n (pc := 35) dJ6_bitCount_0f7a4_35 rfl rfl ?_
  refine x_bipush (pc := 36) (v := 8) dJ6_bitCount_0f7a4_36 (by decide) ?_
  refine x_iushr (pc := 38) dJ6_bitCount_0f7a4_38 ?_
  refine x_iadd (pc := 39) dJ6_bitCount_0f7a4_39 ?_
  refine x_topi (fun v40 ev40 => ?_)
  refine x_istore_n (pc := 40) (lv' := [(0, .int v40)]) dJ6_bitCount_0f7a4_40 rfl (by decide) rfl ?_
  refine x_iload_n (pc := 41) dJ6_bitCount_0f7a4_41 rfl rfl ?_
  refine x_iload_n (pc := 42) dJ6_bitCount_0f7a4_42 rfl rfl ?_
  refine x_bipush (pc := 43) (v := 16) dJ6_bitCount_0f7a4_43 (by decide) ?_
  refine x_iushr (pc := 45) dJ6_bitCount_0f7a4_45 ?_
  refine x_iadd (pc := 46) dJ6_bitCount_0f7a4_46 ?_
  refine x_topi (fun v47 ev47 => ?_)
  refine x_istore_n (pc := 47) (lv' := [(0, .int v47)]) dJ6_bitCount_0f7a4_47 rfl (by decide) rfl ?_
  refine x_iload_n (pc := 48) dJ6_bitCount_0f7a4_48 rfl rfl ?_
  refine x_bipush (pc := 49) (v := 63) dJ6_bitCount_0f7a4_49 (by decide) ?_
  refine x_iand (pc := 51) dJ6_bitCount_0f7a4_51 ?_
  refine x_ireturn (pc := 52) dJ6_bitCount_0f7a4_52 ⟨_, rfl, rfl⟩ ⟨Nat.le_refl _, Nat.le_refl _⟩ ?_
  refine xvi K ?_
  subst ev47 ev40 ev33 ev23 ev9
  exact (bcF_eq t ht).symm

set_option maxHeartbeats 4000000 in
set_option maxRecDepth 100000 in
theorem l_power {T : xT} {n : Nat} {sh : Nat → Nat × Nat} {I : xI} {R : xR} {L : xL} {P : xPost} {b e : Nat} (hb : b ≤ 10) (he : e ≤ 6) (K : P (n, sh, 0, 0) I R L (some (.long (lN (b ^ e)))))  : ∀ (w i : Nat), i + w = e → X T zX9_power 0 0 0 P 5 [(0, .int (nI b)), (1, .int (nI e)), (2, .long (lN (b ^ i))), (4, .int (nI i))] [] (n, sh, 0, 0) (I) R L := by
  intro w
  induction w with
  | zero =>
    intro i hw
    have hz : i = e := by omega
    refine x_iload (pc := 5) dX9_power_5 rfl ?_
    refine x_iload_n (pc := 7) dX9_power_7 rfl rfl ?_
    refine x_icmpn_ge_t (pc := 8) (tgt := 22) (a := i) (b := e) dX9_power_8 (by decide) (by omega) (by omega) (by omega) ?_
    refine x_lload_n (pc := 22) dX9_power_22 rfl rfl ?_
    refine x_lreturn (pc := 23) dX9_power_23 rfl ⟨Nat.le_refl _, Nat.le_refl _⟩ ?_
    rw [hz]
    exact K
  | succ w ih =>
    intro i hw
    have hi : i < e := by omega
    refine x_iload (pc := 5) dX9_power_5 rfl ?_
    refine x_iload_n (pc := 7) dX9_power_7 rfl rfl ?_
    refine x_icmpn_ge_f (pc := 8) (tgt := 22) (a := i) (b := e) dX9_power_8 (by decide) (by omega) (by omega) (by omega) ?_
    refine x_lload_n (pc := 11) dX9_power_11 rfl rfl ?_
    refine x_iload_n (pc := 12) dX9_power_12 rfl rfl ?_
    refine x_i2l (pc := 13) dX9_power_13 ?_
    refine x_lmul (pc := 14) dX9_power_14 ?_
    rw [nI_i64 (by omega), lN_mul, ← Nat.pow_succ]
    refine x_lstore_n (pc := 15) (lv' := [(0, .int (nI b)), (1, .int (nI e)), (2, .long (lN (b ^ (i + 1)))), (4, .int (nI i))]) dX9_power_15 rfl (by decide) rfl ?_
    refine x_iinc (pc := 16) (v := nI (i + 1)) (lv' := [(0, .int (nI b)), (1, .int (nI e)), (2, .long (lN (b ^ (i + 1)))), (4, .int (nI (i + 1)))]) dX9_power_16 rfl (nI_1 _) (by decide) rfl ?_
    refine x_goto (pc := 19) (tgt := 5) dX9_power_19 (by decide) ?_
    exact ih (i + 1) (by omega)

set_option maxHeartbeats 4000000 in
set_option maxRecDepth 100000 in
theorem c_power {T : xT} {n : Nat} {sh : Nat → Nat × Nat} {I : xI} {R : xR} {L : xL} {P : xPost} {b e : Nat} (hb : b ≤ 10) (he : e ≤ 6) (K : P (n, sh, 0, 0) I R L (some (.long (lN (b ^ e)))))  : XM T zX9_power 0 [.int (nI b), .int (nI e)] n sh I R L P := by
  refine x_lconst (pc := 0) (v := 1) dX9_power_0 (by decide) ?_
  refine x_lstore_n (pc := 1) (lv' := [(0, .int (nI b)), (1, .int (nI e)), (2, .long 1)]) dX9_power_1 rfl (by decide) rfl ?_
  refine x_iconst (pc := 2) (v := 0) dX9_power_2 (by decide) ?_
  refine x_istore (pc := 3) (lv' := [(0, .int (nI b)), (1, .int (nI e)), (2, .long 1), (4, .int 0)]) dX9_power_3 (by decide) rfl ?_
  exact l_power hb he K e 0 (by omega)

set_option maxHeartbeats 4000000 in
set_option maxRecDepth 100000 in
theorem c_weightOf {T : xT} {n : Nat} {sh : Nat → Nat × Nat} {I : xI} {R : xR} {L : xL} {P : xPost} {lr nw im tr rd hu se ac M : Nat} (hG : GEO sh R lr nw im tr rd hu se ac M) {V : xV} {B : Nat} (h : FSC I nw V) (hv : VOK V B) {t m : Nat} (ht : t < 64) (hm : m ≤ 6) (htm : t < 2 ^ m) (K : P (n, sh, 0, 0) I R L (some (.long (lN (wtF (V 8 3) t m)))))  : XM T zX9_weightOf 1 [.ref lr, .int (nI t), .int (nI m)] n sh I R L P := by
  obtain ⟨v6, v12, v10, vb, vf, vw, vm, vta, vte, vod, vrg, vdi⟩ := id hv
  have hp := pop_le m (by omega) t ht htm
  refine x_iload_n (pc := 0) dX9_weightOf_0 rfl rfl ?_
  refine x_callS (pc := 1) (As := [.int _]) dX9_weightOf_1 km_J6_bitCount_0f7a4 ks_J6_bitCount_0f7a4 kl_RX9_269 rfl (by decide) ⟨Nat.le_refl _, Nat.le_refl _⟩ rfl (Nat.le_of_ble_eq_true rfl) (Nat.le_of_ble_eq_true rfl) (c_bitCount ht (⟨rfl, rfl, ?_⟩))
  refine x_istore_n (pc := 4) (lv' := [(0, .ref lr), (1, .int (nI t)), (2, .int (nI m)), (3, .int (nI (pop t)))]) dX9_weightOf_4 rfl (by decide) rfl ?_
  refine x_aload_n (pc := 5) dX9_weightOf_5 rfl rfl ?_
  refine x_getr (pc := 6) dX9_weightOf_6 kf_RX9_12 hG.g_x rfl hG.g_f0 ?_
  refine x_get (pc := 9) dX9_weightOf_9 kf_RX9_250 hG.g_nw.1 rfl ?_
  rw [h.2.2.2.1]
  refine x_iload_n (pc := 12) dX9_weightOf_12 rfl rfl ?_
  refine x_callS (pc := 13) (As := [.int _, .int _]) dX9_weightOf_13 km_X9_power ks_X9_power kl_RX9_262 rfl (by decide) ⟨Nat.le_refl _, Nat.le_refl _⟩ rfl (Nat.le_of_ble_eq_true rfl) (Nat.le_of_ble_eq_true rfl) (c_power (b := V 8 3) (e := pop t) vod (by omega) (⟨rfl, rfl, ?_⟩))
  refine x_bipush (pc := 16) (v := 10) dX9_weightOf_16 (by decide) ?_
  refine x_aload_n (pc := 18) dX9_weightOf_18 rfl rfl ?_
  refine x_getr (pc := 19) dX9_weightOf_19 kf_RX9_12 hG.g_x rfl hG.g_f0 ?_
  refine x_get (pc := 22) dX9_weightOf_22 kf_RX9_250 hG.g_nw.1 rfl ?_
  rw [h.2.2.2.1]
  refine x_isubn (pc := 25) (a := 10) (b := (V 8 3)) dX9_weightOf_25 (vod) ?_
  refine x_iload_n (pc := 26) dX9_weightOf_26 rfl rfl ?_
  refine x_iload_n (pc := 27) dX9_weightOf_27 rfl rfl ?_
  refine x_isubn (pc := 28) (a := m) (b := (pop t)) dX9_weightOf_28 (hp) ?_
  refine x_callS (pc := 29) (As := [.int _, .int _]) dX9_weightOf_29 km_X9_power ks_X9_power kl_RX9_262 rfl (by decide) ⟨Nat.le_refl _, Nat.le_refl _⟩ rfl (Nat.le_of_ble_eq_true rfl) (Nat.le_of_ble_eq_true rfl) (c_power (b := 10 - V 8 3) (e := m - pop t) (by omega) (by omega) (⟨rfl, rfl, ?_⟩))
  refine x_lmul (pc := 32) dX9_weightOf_32 ?_
  refine x_lreturn (pc := 33) dX9_weightOf_33 rfl ⟨Nat.le_refl _, Nat.le_refl _⟩ ?_
  rw [lN_mul, wt_eq _ (by omega) m (by omega) t ht htm]
  exact K

theorem gc_step {p q w : Nat} (h1 : q ≤ p) (h0 : 0 < p) (hq : ¬ q = 0) (h : p * q < 2 ^ (w + 1)) : p % q ≤ q ∧ 0 < q ∧ q * (p % q) < 2 ^ w := by
  have a1 : p % q < q := Nat.mod_lt _ (by omega)
  have a2 : q * (p / q) + p % q = p := Nat.div_add_mod p q
  have a3 : 1 ≤ p / q := Nat.div_pos h1 (by omega)
  have a5 : q * 1 ≤ q * (p / q) := Nat.mul_le_mul_left q a3
  have a6 : 2 * (p % q) ≤ p := by omega
  have a7 : q * (2 * (p % q)) ≤ q * p := Nat.mul_le_mul_left q a6
  have a8 : q * (2 * (p % q)) = 2 * (q * (p % q)) := by rw [Nat.mul_left_comm]
  have a9 : q * p = p * q := Nat.mul_comm q p
  have b1 : 2 ^ (w + 1) = 2 * 2 ^ w := by rw [Nat.pow_succ, Nat.mul_comm]
  refine ⟨by omega, by omega, by omega⟩
theorem gc_eq {p q : Nat} : Nat.gcd (p % q) q = Nat.gcd q p := (Nat.gcd_rec q p).symm
def gcI (A B i p q : Nat) : Prop := (i = 0 ∧ p = A ∧ q = B) ∨ (0 < i ∧ q ≤ p ∧ 0 < p ∧ p ≤ 1000000 ∧ p * q < 2 ^ (200 - i))
theorem gcI_s {A B i p q : Nat} (hB : B ≤ 1000000) (hB0 : 0 < B) (hi : i < 200) (hq : ¬ q = 0) (h : gcI A B i p q) : gcI A B (i + 1) q (p % q) := by
  rcases h with ⟨h1, h2, h3⟩ | ⟨h0, h1, h2, h3, h4⟩
  · subst h1 h2 h3
    have a1 : p % q < q := Nat.mod_lt _ (by omega)
    have a2 : q * (p % q) ≤ 1000000 * 1000000 := Nat.mul_le_mul hB (by omega)
    refine Or.inr ⟨by omega, by omega, by omega, hB, Nat.lt_of_le_of_lt a2 ?_⟩
    exact Nat.lt_of_lt_of_le (show 1000000 * 1000000 < 2 ^ 40 by decide) (Nat.pow_le_pow_right (by decide) (by omega))
  · have e : 200 - i = 200 - (i + 1) + 1 := by omega
    rw [e] at h4
    obtain ⟨a1, a2, a3⟩ := gc_step h1 h2 hq h4
    exact Or.inr ⟨by omega, a1, a2, by omega, a3⟩
theorem gcI_b {A B i p q : Nat} (hA : A < 2 ^ 40) (hB : B ≤ 1000000) (h : gcI A B i p q) : p < 2 ^ 40 ∧ q ≤ 1000000 := by
  rcases h with ⟨h1, h2, h3⟩ | ⟨h0, h1, h2, h3, h4⟩
  · subst h2 h3
    exact ⟨hA, hB⟩
  · exact ⟨by omega, by omega⟩
theorem lcmp0 {q : Nat} (hq : q < 2 ^ 63) : lg_cmp (lN q) 0 = 0 ↔ q = 0 := (lg_cmp_eq _ _).trans (pk_lEQ (b := 0) hq (by decide))

set_option maxHeartbeats 4000000 in
set_option maxRecDepth 100000 in
theorem l_gcd {T : xT} {n : Nat} {sh : Nat → Nat × Nat} {I : xI} {R : xR} {L : xL} {P : xPost} {A B : Nat} (hA : A < 2 ^ 40) (hB : B ≤ 1000000) (hB0 : 0 < B) (K : P (n, sh, 0, 0) I R L (some (.long (lN (Nat.gcd B A)))))  : ∀ (w i : Nat), i + w = 200 → ∀ (p q : Nat), gcI A B i p q → Nat.gcd q p = Nat.gcd B A → X T zX9_sharedDivisor 0 0 0 P 9 [(0, .long (lN A)), (2, .long (lN B)), (4, .long (lN p)), (6, .long (lN q)), (8, .int (nI i))] [] (n, sh, 0, 0) (I) R L := by
  intro w
  induction w with
  | zero =>
    intro i hw p q hg he
    have hz : i = 200 := by omega
    have hb := gcI_b hA hB hg
    refine x_iload (pc := 9) dX9_sharedDivisor_9 rfl ?_
    refine x_sipush (pc := 11) (v := 200) dX9_sharedDivisor_11 (by decide) ?_
    refine x_icmpn_ge_t (pc := 14) (tgt := 45) (a := i) (b := 200) dX9_sharedDivisor_14 (by decide) (by omega) (by decide) (by omega) ?_
    refine x_lload (pc := 45) dX9_sharedDivisor_45 rfl ?_
    refine x_lreturn (pc := 47) dX9_sharedDivisor_47 rfl ⟨Nat.le_refl _, Nat.le_refl _⟩ ?_
    have q0 : q = 0 := by
      rcases hg with ⟨a1, _⟩ | ⟨a1, a2, a3, a4, a5⟩
      · omega
      · rw [hz] at a5
        have a6 : p * q < 1 := a5
        rcases Nat.eq_zero_or_pos q with z | z
        · exact z
        · have := Nat.mul_pos a3 z
          omega
    rw [q0, Nat.gcd_zero_left] at he
    rw [he]
    exact K
  | succ w ih =>
    intro i hw p q hg he
    have hi : i < 200 := by omega
    have hb := gcI_b hA hB hg
    refine x_iload (pc := 9) dX9_sharedDivisor_9 rfl ?_
    refine x_sipush (pc := 11) (v := 200) dX9_sharedDivisor_11 (by decide) ?_
    refine x_icmpn_ge_f (pc := 14) (tgt := 45) (a := i) (b := 200) dX9_sharedDivisor_14 (by decide) (by omega) (by decide) (by omega) ?_
    refine x_lload (pc := 17) dX9_sharedDivisor_17 rfl ?_
    refine x_lconst (pc := 19) (v := 0) dX9_sharedDivisor_19 (by decide) ?_
    refine x_lcmp (pc := 20) dX9_sharedDivisor_20 ?_
    refine x_if_eq (pc := 21) (tgt := 45) dX9_sharedDivisor_21 (by decide) (fun c21 => ?_) (fun c21 => ?_)
    · skip
      refine x_lload (pc := 45) dX9_sharedDivisor_45 rfl ?_
      refine x_lreturn (pc := 47) dX9_sharedDivisor_47 rfl ⟨Nat.le_refl _, Nat.le_refl _⟩ ?_
      have q0 : q = 0 := (lcmp0 (by omega)).mp c21
      rw [q0, Nat.gcd_zero_left] at he
      rw [he]
      exact K
    · skip
      have q0 : ¬ q = 0 := fun z => c21 ((lcmp0 (by omega)).mpr z)
      refine x_lload (pc := 24) dX9_sharedDivisor_24 rfl ?_
      refine x_lload (pc := 26) dX9_sharedDivisor_26 rfl ?_
      refine x_lrem (pc := 28) dX9_sharedDivisor_28 (fun z => q0 ((pk_lEQ (b := 0) (by omega) (by decide)).mp z)) ?_
      rw [pk_lRem (by omega) (by omega) (by omega)]
      refine x_lstore (pc := 29) (lv' := [(0, .long (lN A)), (2, .long (lN B)), (4, .long (lN p)), (6, .long (lN q)), (8, .int (nI i)), (9, .long (lN (p % q)))]) dX9_sharedDivisor_29 (by decide) rfl ?_
      refine x_lload (pc := 31) dX9_sharedDivisor_31 rfl ?_
      refine x_lstore (pc := 33) (lv' := [(0, .long (lN A)), (2, .long (lN B)), (4, .long (lN q)), (6, .long (lN q)), (8, .int (nI i)), (9, .long (lN (p % q)))]) dX9_sharedDivisor_33 (by decide) rfl ?_
      refine x_lload (pc := 35) dX9_sharedDivisor_35 rfl ?_
      refine x_lstore (pc := 37) (lv' := [(0, .long (lN A)), (2, .long (lN B)), (4, .long (lN q)), (6, .long (lN (p % q))), (8, .int (nI i)), (9, .long (lN (p % q)))]) dX9_sharedDivisor_37 (by decide) rfl ?_
      refine x_iinc (pc := 39) (v := nI (i + 1)) (lv' := [(0, .long (lN A)), (2, .long (lN B)), (4, .long (lN q)), (6, .long (lN (p % q))), (8, .int (nI (i + 1))), (9, .long (lN (p % q)))]) dX9_sharedDivisor_39 rfl (nI_1 _) (by decide) rfl ?_
      refine x_goto (pc := 42) (tgt := 9) dX9_sharedDivisor_42 (by decide) ?_
      exact X.keep [0, 2, 4, 6, 8] rfl (ih (i + 1) (by omega) q (p % q) (gcI_s hB hB0 hi q0 hg) (gc_eq.trans he))

set_option maxHeartbeats 4000000 in
set_option maxRecDepth 100000 in
theorem c_gcd {T : xT} {n : Nat} {sh : Nat → Nat × Nat} {I : xI} {R : xR} {L : xL} {P : xPost} {A B : Nat} (hA : A < 2 ^ 40) (hB : B ≤ 1000000) (hB0 : 0 < B) (K : P (n, sh, 0, 0) I R L (some (.long (lN (Nat.gcd B A)))))  : XM T zX9_sharedDivisor 0 [.long (lN A), .long (lN B)] n sh I R L P := by
  refine x_lload_n (pc := 0) dX9_sharedDivisor_0 rfl rfl ?_
  refine x_lstore (pc := 1) (lv' := [(0, .long (lN A)), (2, .long (lN B)), (4, .long (lN A))]) dX9_sharedDivisor_1 (by decide) rfl ?_
  refine x_lload_n (pc := 3) dX9_sharedDivisor_3 rfl rfl ?_
  refine x_lstore (pc := 4) (lv' := [(0, .long (lN A)), (2, .long (lN B)), (4, .long (lN A)), (6, .long (lN B))]) dX9_sharedDivisor_4 (by decide) rfl ?_
  refine x_iconst (pc := 6) (v := 0) dX9_sharedDivisor_6 (by decide) ?_
  refine x_istore (pc := 7) (lv' := [(0, .long (lN A)), (2, .long (lN B)), (4, .long (lN A)), (6, .long (lN B)), (8, .int 0)]) dX9_sharedDivisor_7 (by decide) rfl ?_
  exact l_gcd hA hB hB0 K 200 0 (by omega) A B (Or.inl ⟨rfl, rfl, rfl⟩) rfl

set_option maxHeartbeats 4000000 in
set_option maxRecDepth 100000 in
theorem l_stays {T : xT} {n : Nat} {sh : Nat → Nat × Nat} {I : xI} {R : xR} {L : xL} {P : xPost} {lr nw im tr rd hu se ac M : Nat} (hG : GEO sh R lr nw im tr rd hu se ac M) {V : xV} {B : Nat} {ars : Nat → xAR} (hv : VOK V B) (hB : B < 800000) {t m ld : Nat} (ht : t < 64) (hm : m ≤ 6) (hld : ld < 100) (hlo : loudO (rgVal ars V) = ld) (K1 : ∀ J : xI, cmP V (rgVal ars V) t m = true → trP tr I J → P (n, sh, 0, 0) J R L (some (.int 1))) (K2 : ∀ J : xI, cmP V (rgVal ars V) t m = false → trP tr I J → P (n, sh, 0, 0) J R L (some (.int 0)))  : ∀ (w i : Nat), i + w = m → ∀ (J : xI) (lo : Nat), SC sh R J tr (V 8 0) (V 0) (V 1) (cmF V (rgVal ars V) t i) (V 3) (V 4) (V 8 1) (V 8 2 + i) lo (lnO (rgVal ars V)) → trP tr I J → (∀ k, k < i → held (V 8 0) (cmF V (rgVal ars V) t (k + 1)) (V 8 1) = false) → X T zX9_staysCalm 6 0 0 P 39 [(0, .ref lr), (1, .int (nI t)), (2, .int (nI m)), (3, .int (nI ld)), (4, .int (nI i))] [] (n, sh, 0, 0) (J) R L := by
  obtain ⟨v6, v12, v10, vb, vf, vw, vm, vta, vte, vod, vrg, vdi⟩ := id hv
  have e1 := hG.g_e_nw
  have e2 := hG.g_e_tr
  have e3 := hG.g_e_x
  have e4 := hG.g_e_im
  intro w
  induction w with
  | zero =>
    intro i hw J lo hj fj hno
    have hz : i = m := by omega
    refine x_iload (pc := 39) dX9_staysCalm_39 rfl ?_
    refine x_iload_n (pc := 41) dX9_staysCalm_41 rfl rfl ?_
    refine x_icmpn_ge_t (pc := 42) (tgt := 91) (a := i) (b := m) dX9_staysCalm_42 (by decide) (by omega) (by omega) (by omega) ?_
    refine x_iconst (pc := 91) (v := 1) dX9_staysCalm_91 (by decide) ?_
    refine x_ireturn (pc := 92) dX9_staysCalm_92 ⟨_, rfl, by decide⟩ ⟨Nat.le_refl _, Nat.le_refl _⟩ ?_
    exact K1 J (decide_eq_true (fun k hk => hno k (by omega))) fj
  | succ w ih =>
    intro i hw J lo hj fj hno
    have hi : i < m := by omega
    refine x_iload (pc := 39) dX9_staysCalm_39 rfl ?_
    refine x_iload_n (pc := 41) dX9_staysCalm_41 rfl rfl ?_
    refine x_icmpn_ge_f (pc := 42) (tgt := 91) (a := i) (b := m) dX9_staysCalm_42 (by decide) (by omega) (by omega) (by omega) ?_
    refine x_aload_n (pc := 45) dX9_staysCalm_45 rfl rfl ?_
    refine x_getr (pc := 46) dX9_staysCalm_46 kf_RX9_21 hG.g_x rfl hG.g_f2 ?_
    refine x_iload_n (pc := 49) dX9_staysCalm_49 rfl rfl ?_
    refine x_iload (pc := 50) dX9_staysCalm_50 rfl ?_
    refine x_iushr (pc := 52) dX9_staysCalm_52 ?_
    refine x_iconst (pc := 53) (v := 1) dX9_staysCalm_53 (by decide) ?_
    refine x_iand (pc := 54) dX9_staysCalm_54 ?_
    rw [bget_c t ht i (by omega)]
    have hg := @bget_lt t i
    refine x_ifn_eq (pc := 55) (tgt := 62) (a := (bget t i)) dX9_staysCalm_55 (by decide) (by omega) (fun c55 => ?_) (fun c55 => ?_)
    · skip
      have el : cmL (rgVal ars V) t i = 0 := if_neg (by omega)
      have hj2 : SC sh R (up2 J tr 12 (nI (0))) tr (V 8 0) (V 0) (V 1) (cmF V (rgVal ars V) t i) (V 3) (V 4) (V 8 1) (V 8 2 + i) (cmL (rgVal ars V) t i) (lnO (rgVal ars V)) := by
        rw [el]
        exact hj.setLoud (by omega)
      refine x_iconst (pc := 62) (v := 0) dX9_staysCalm_62 (by decide) ?_
      refine x_put (pc := 63) dX9_staysCalm_63 kf_RX9_277 hG.g_tr.1 rfl (Or.inl kb_6_12) ?_
      refine x_aload_n (pc := 66) dX9_staysCalm_66 rfl rfl ?_
      refine x_getr (pc := 67) dX9_staysCalm_67 kf_RX9_21 hG.g_x rfl hG.g_f2 ?_
      refine x_callV (pc := 70) (As := []) dX9_staysCalm_70 km_X6_passTenth kv_X6_passTenth kl_RX9_187 hG.g_tr.1 rfl rfl (by decide) ⟨Nat.le_refl _, Nat.le_refl _⟩ rfl (Nat.le_of_ble_eq_true rfl) (Nat.le_of_ble_eq_true rfl) (c_passTenth hj2 (by omega) (fun I2 h3 f2 => ⟨rfl, rfl, ?_⟩))
      have h3 := (show SC sh R I2 tr (V 8 0) (V 0) (V 1) (cmF V (rgVal ars V) t (i + 1)) (V 3) (V 4) (V 8 1) (V 8 2 + (i + 1)) (cmL (rgVal ars V) t i) (lnO (rgVal ars V)) from h3)
      have ff : trP tr I I2 := fun a ha => by rw [f2.1 a (by omega) (by omega) (by omega), up2_row (by omega)]; exact fj a ha
      refine x_aload_n (pc := 73) dX9_staysCalm_73 rfl rfl ?_
      refine x_getr (pc := 74) dX9_staysCalm_74 kf_RX9_21 hG.g_x rfl hG.g_f2 ?_
      refine x_callV (pc := 77) (As := []) dX9_staysCalm_77 km_X6_isCaught kv_X6_isCaught kl_RX9_190 hG.g_tr.1 rfl rfl (by decide) ⟨Nat.le_refl _, Nat.le_refl _⟩ rfl (Nat.le_of_ble_eq_true rfl) (Nat.le_of_ble_eq_true rfl) (c_isCaught hG.g_tr h3.2.2.2.2.1 v6 (fun i hi => (h3.2.2.2.2.2.2.2.1 i hi).2.2.1) h3.2.2.2.2.2.2.2.2.1 vta (fun hh => ⟨rfl, rfl, ?_⟩) (fun hf => ⟨rfl, rfl, ?_⟩))
      · skip
        refine x_if_eq_f (pc := 80) (tgt := 85) dX9_staysCalm_80 (by decide) (by decide) ?_
        refine x_iconst (pc := 83) (v := 0) dX9_staysCalm_83 (by decide) ?_
        refine x_ireturn (pc := 84) dX9_staysCalm_84 ⟨_, rfl, by decide⟩ ⟨Nat.le_refl _, Nat.le_refl _⟩ ?_
        exact K2 I2 (decide_eq_false (fun q => by have := q i hi; rw [hh] at this; cases this)) ff
      · skip
        refine x_if_eq_t (pc := 80) (tgt := 85) dX9_staysCalm_80 (by decide) (by decide) ?_
        refine x_iinc (pc := 85) (v := nI (i + 1)) (lv' := [(0, .ref lr), (1, .int (nI t)), (2, .int (nI m)), (3, .int (nI ld)), (4, .int (nI (i + 1)))]) dX9_staysCalm_85 rfl (nI_1 _) (by decide) rfl ?_
        refine x_goto (pc := 88) (tgt := 39) dX9_staysCalm_88 (by decide) ?_
        exact ih (i + 1) (by omega) I2 _ h3 ff (fun k hk => (Nat.lt_succ_iff_lt_or_eq.mp hk).elim (hno k) (fun e => by subst e; exact hf))
    · skip
      have el : cmL (rgVal ars V) t i = ld := (if_pos (by omega)).trans hlo
      have hj2 : SC sh R (up2 J tr 12 (nI (ld))) tr (V 8 0) (V 0) (V 1) (cmF V (rgVal ars V) t i) (V 3) (V 4) (V 8 1) (V 8 2 + i) (cmL (rgVal ars V) t i) (lnO (rgVal ars V)) := by
        rw [el]
        exact hj.setLoud (by omega)
      refine x_iload_n (pc := 58) dX9_staysCalm_58 rfl rfl ?_
      refine x_goto (pc := 59) (tgt := 63) dX9_staysCalm_59 (by decide) ?_
      refine x_put (pc := 63) dX9_staysCalm_63 kf_RX9_277 hG.g_tr.1 rfl (Or.inl kb_6_12) ?_
      refine x_aload_n (pc := 66) dX9_staysCalm_66 rfl rfl ?_
      refine x_getr (pc := 67) dX9_staysCalm_67 kf_RX9_21 hG.g_x rfl hG.g_f2 ?_
      refine x_callV (pc := 70) (As := []) dX9_staysCalm_70 km_X6_passTenth kv_X6_passTenth kl_RX9_187 hG.g_tr.1 rfl rfl (by decide) ⟨Nat.le_refl _, Nat.le_refl _⟩ rfl (Nat.le_of_ble_eq_true rfl) (Nat.le_of_ble_eq_true rfl) (c_passTenth hj2 (by omega) (fun I2 h3 f2 => ⟨rfl, rfl, ?_⟩))
      have h3 := (show SC sh R I2 tr (V 8 0) (V 0) (V 1) (cmF V (rgVal ars V) t (i + 1)) (V 3) (V 4) (V 8 1) (V 8 2 + (i + 1)) (cmL (rgVal ars V) t i) (lnO (rgVal ars V)) from h3)
      have ff : trP tr I I2 := fun a ha => by rw [f2.1 a (by omega) (by omega) (by omega), up2_row (by omega)]; exact fj a ha
      refine x_aload_n (pc := 73) dX9_staysCalm_73 rfl rfl ?_
      refine x_getr (pc := 74) dX9_staysCalm_74 kf_RX9_21 hG.g_x rfl hG.g_f2 ?_
      refine x_callV (pc := 77) (As := []) dX9_staysCalm_77 km_X6_isCaught kv_X6_isCaught kl_RX9_190 hG.g_tr.1 rfl rfl (by decide) ⟨Nat.le_refl _, Nat.le_refl _⟩ rfl (Nat.le_of_ble_eq_true rfl) (Nat.le_of_ble_eq_true rfl) (c_isCaught hG.g_tr h3.2.2.2.2.1 v6 (fun i hi => (h3.2.2.2.2.2.2.2.1 i hi).2.2.1) h3.2.2.2.2.2.2.2.2.1 vta (fun hh => ⟨rfl, rfl, ?_⟩) (fun hf => ⟨rfl, rfl, ?_⟩))
      · skip
        refine x_if_eq_f (pc := 80) (tgt := 85) dX9_staysCalm_80 (by decide) (by decide) ?_
        refine x_iconst (pc := 83) (v := 0) dX9_staysCalm_83 (by decide) ?_
        refine x_ireturn (pc := 84) dX9_staysCalm_84 ⟨_, rfl, by decide⟩ ⟨Nat.le_refl _, Nat.le_refl _⟩ ?_
        exact K2 I2 (decide_eq_false (fun q => by have := q i hi; rw [hh] at this; cases this)) ff
      · skip
        refine x_if_eq_t (pc := 80) (tgt := 85) dX9_staysCalm_80 (by decide) (by decide) ?_
        refine x_iinc (pc := 85) (v := nI (i + 1)) (lv' := [(0, .ref lr), (1, .int (nI t)), (2, .int (nI m)), (3, .int (nI ld)), (4, .int (nI (i + 1)))]) dX9_staysCalm_85 rfl (nI_1 _) (by decide) rfl ?_
        refine x_goto (pc := 88) (tgt := 39) dX9_staysCalm_88 (by decide) ?_
        exact ih (i + 1) (by omega) I2 _ h3 ff (fun k hk => (Nat.lt_succ_iff_lt_or_eq.mp hk).elim (hno k) (fun e => by subst e; exact hf))

set_option maxHeartbeats 4000000 in
set_option maxRecDepth 100000 in
theorem c_stays0 {T : xT} {n : Nat} {sh : Nat → Nat × Nat} {I : xI} {R : xR} {L : xL} {P : xPost} {lr nw im tr rd hu se ac M : Nat} (hG : GEO sh R lr nw im tr rd hu se ac M) {V : xV} {B rc : Nat} {ars : Nat → xAR} (h : FSC I nw V) (hv : VOK V B) (hB : B < 800000) (hr : cRings I lr rc ars) (hV6 : V 8 6 ≤ rc) (hRn : R nw 11 = rgRef V) {t m : Nat} (ht : t < 64) (hm : m ≤ 6) (h0 : V 8 6 = 0) (K1 : ∀ (J : xI) (Q : xR), cmP V (rgVal ars V) t m = true → trP tr I J → trR tr R Q → P (n, sh, 0, 0) J Q L (some (.int 1))) (K2 : ∀ (J : xI) (Q : xR), cmP V (rgVal ars V) t m = false → trP tr I J → trR tr R Q → P (n, sh, 0, 0) J Q L (some (.int 0)))  : XM T zX9_staysCalm 6 [.ref lr, .int (nI t), .int (nI m)] n sh I R L P := by
  obtain ⟨v6, v12, v10, vb, vf, vw, vm, vta, vte, vod, vrg, vdi⟩ := id hv
  have e1 := hG.g_e_nw
  have e2 := hG.g_e_tr
  have e3 := hG.g_e_x
  have e4 := hG.g_e_im
  have hrr : rgRef V = none := if_pos h0
  refine x_aload_n (pc := 0) dX9_staysCalm_0 rfl rfl ?_
  refine x_getr (pc := 1) dX9_staysCalm_1 kf_RX9_21 hG.g_x rfl hG.g_f2 ?_
  refine x_aload_n (pc := 4) dX9_staysCalm_4 rfl rfl ?_
  refine x_getr (pc := 5) dX9_staysCalm_5 kf_RX9_12 hG.g_x rfl hG.g_f0 ?_
  refine x_callV (pc := 8) (As := [.ref _]) dX9_staysCalm_8 km_X6_copyFrom kv_X6_copyFrom kl_RX9_197 hG.g_tr.1 rfl rfl (by decide) ⟨Nat.le_refl _, Nat.le_refl _⟩ rfl (Nat.le_of_ble_eq_true rfl) (Nat.le_of_ble_eq_true rfl) (c_scCopy hG.g_tr hG.g_nw (by omega) (fun j hj => ⟨(h.1 j hj).1, vsz_le hv hj⟩) (fun I2 k1 k2 k3 k4 k5 k6 => ⟨rfl, rfl, ?_⟩))
  have hsc := h.toTr hG hv hB hr hV6 hRn k1 k2 k3 k4 k5 k6
  have hG : GEO sh (up2 R tr 11 (R nw 11)) lr nw im tr rd hu se ac M := hG.keepR (fun a k hk => trR.up a k (Or.inr hk))
  have hR2 : up2 R tr 11 (R nw 11) nw 11 = rgRef V := (congrFun (up2_row (by omega)) 11).trans hRn
  rw [hrr] at hR2
  refine x_aload_n (pc := 11) dX9_staysCalm_11 rfl rfl ?_
  refine x_getr (pc := 12) dX9_staysCalm_12 kf_RX9_12 hG.g_x rfl hG.g_f0 ?_
  refine x_getN (pc := 15) dX9_staysCalm_15 kf_RX9_184 hG.g_nw.1 rfl hR2 ?_
  refine x_ifnonnullN (pc := 18) dX9_staysCalm_18 ?_
  refine x_iconst (pc := 21) (v := 1) dX9_staysCalm_21 (by decide) ?_
  refine x_goto (pc := 22) (tgt := 35) dX9_staysCalm_22 (by decide) ?_
  refine x_istore_n (pc := 35) (lv' := [(0, .ref lr), (1, .int (nI t)), (2, .int (nI m)), (3, .int 1)]) dX9_staysCalm_35 rfl (by decide) rfl ?_
  refine x_iconst (pc := 36) (v := 0) dX9_staysCalm_36 (by decide) ?_
  refine x_istore (pc := 37) (lv' := [(0, .ref lr), (1, .int (nI t)), (2, .int (nI m)), (3, .int 1), (4, .int 0)]) dX9_staysCalm_37 (by decide) rfl ?_
  refine l_stays hG hv hB ht hm (ld := 1) (by decide) (by unfold rgVal; rw [if_pos h0]; rfl) (fun J q1 q2 => K1 J _ q1 (fun a ha => (q2 a ha).trans (k1 a (by omega))) trR.up) (fun J q1 q2 => K2 J _ q1 (fun a ha => (q2 a ha).trans (k1 a (by omega))) trR.up) m 0 (by omega) I2 0 hsc (fun _ _ => rfl) (fun k hk => absurd hk (by omega))

set_option maxHeartbeats 4000000 in
set_option maxRecDepth 100000 in
theorem c_stays1 {T : xT} {n : Nat} {sh : Nat → Nat × Nat} {I : xI} {R : xR} {L : xL} {P : xPost} {lr nw im tr rd hu se ac M : Nat} (hG : GEO sh R lr nw im tr rd hu se ac M) {V : xV} {B rc : Nat} {ars : Nat → xAR} (h : FSC I nw V) (hv : VOK V B) (hB : B < 800000) (hr : cRings I lr rc ars) (hV6 : V 8 6 ≤ rc) (hRn : R nw 11 = rgRef V) {t m : Nat} (ht : t < 64) (hm : m ≤ 6) (h0 : ¬ V 8 6 = 0) (K1 : ∀ (J : xI) (Q : xR), cmP V (rgVal ars V) t m = true → trP tr I J → trR tr R Q → P (n, sh, 0, 0) J Q L (some (.int 1))) (K2 : ∀ (J : xI) (Q : xR), cmP V (rgVal ars V) t m = false → trP tr I J → trR tr R Q → P (n, sh, 0, 0) J Q L (some (.int 0)))  : XM T zX9_staysCalm 6 [.ref lr, .int (nI t), .int (nI m)] n sh I R L P := by
  obtain ⟨v6, v12, v10, vb, vf, vw, vm, vta, vte, vod, vrg, vdi⟩ := id hv
  have e1 := hG.g_e_nw
  have e2 := hG.g_e_tr
  have e3 := hG.g_e_x
  have e4 := hG.g_e_im
  have hrr : rgRef V = some (83 + 7 * (V 8 6 - 1)) := if_neg h0
  have hr6 := hr.1
  have hj6 : V 8 6 - 1 < 6 := by omega
  have hL := hr.2.2 (V 8 6 - 1) (by omega)
  refine x_aload_n (pc := 0) dX9_staysCalm_0 rfl rfl ?_
  refine x_getr (pc := 1) dX9_staysCalm_1 kf_RX9_21 hG.g_x rfl hG.g_f2 ?_
  refine x_aload_n (pc := 4) dX9_staysCalm_4 rfl rfl ?_
  refine x_getr (pc := 5) dX9_staysCalm_5 kf_RX9_12 hG.g_x rfl hG.g_f0 ?_
  refine x_callV (pc := 8) (As := [.ref _]) dX9_staysCalm_8 km_X6_copyFrom kv_X6_copyFrom kl_RX9_197 hG.g_tr.1 rfl rfl (by decide) ⟨Nat.le_refl _, Nat.le_refl _⟩ rfl (Nat.le_of_ble_eq_true rfl) (Nat.le_of_ble_eq_true rfl) (c_scCopy hG.g_tr hG.g_nw (by omega) (fun j hj => ⟨(h.1 j hj).1, vsz_le hv hj⟩) (fun I2 k1 k2 k3 k4 k5 k6 => ⟨rfl, rfl, ?_⟩))
  have hsc := h.toTr hG hv hB hr hV6 hRn k1 k2 k3 k4 k5 k6
  have hG : GEO sh (up2 R tr 11 (R nw 11)) lr nw im tr rd hu se ac M := hG.keepR (fun a k hk => trR.up a k (Or.inr hk))
  have hR2 : up2 R tr 11 (R nw 11) nw 11 = rgRef V := (congrFun (up2_row (by omega)) 11).trans hRn
  rw [hrr] at hR2
  refine x_aload_n (pc := 11) dX9_staysCalm_11 rfl rfl ?_
  refine x_getr (pc := 12) dX9_staysCalm_12 kf_RX9_12 hG.g_x rfl hG.g_f0 ?_
  refine x_getr (pc := 15) dX9_staysCalm_15 kf_RX9_184 hG.g_nw.1 rfl hR2 ?_
  refine x_ifnonnull (pc := 18) (tgt := 25) dX9_staysCalm_18 (by decide) ?_
  refine x_aload_n (pc := 25) dX9_staysCalm_25 rfl rfl ?_
  refine x_getr (pc := 26) dX9_staysCalm_26 kf_RX9_12 hG.g_x rfl hG.g_f0 ?_
  refine x_getr (pc := 29) dX9_staysCalm_29 kf_RX9_184 hG.g_nw.1 rfl hR2 ?_
  refine x_get (pc := 32) dX9_staysCalm_32 kf_RX9_274 (hG.g_rg _ hj6).1 rfl ?_
  rw [show I2 (83 + 7 * (V 8 6 - 1)) 3 = nI (loudA (ars (V 8 6 - 1)) (ars (V 8 6 - 1)).1) from (congrFun (k1 _ (by omega)) 3).trans hL.2.1]
  refine x_istore_n (pc := 35) (lv' := [(0, .ref lr), (1, .int (nI t)), (2, .int (nI m)), (3, .int (nI (loudA (ars (V 8 6 - 1)) (ars (V 8 6 - 1)).1)))]) dX9_staysCalm_35 rfl (by decide) rfl ?_
  refine x_iconst (pc := 36) (v := 0) dX9_staysCalm_36 (by decide) ?_
  refine x_istore (pc := 37) (lv' := [(0, .ref lr), (1, .int (nI t)), (2, .int (nI m)), (3, .int (nI (loudA (ars (V 8 6 - 1)) (ars (V 8 6 - 1)).1))), (4, .int 0)]) dX9_staysCalm_37 (by decide) rfl ?_
  refine l_stays hG hv hB ht hm (ld := loudA (ars (V 8 6 - 1)) (ars (V 8 6 - 1)).1) hL.2.2 (by unfold rgVal; rw [if_neg h0]; rfl) (fun J q1 q2 => K1 J _ q1 (fun a ha => (q2 a ha).trans (k1 a (by omega))) trR.up) (fun J q1 q2 => K2 J _ q1 (fun a ha => (q2 a ha).trans (k1 a (by omega))) trR.up) m 0 (by omega) I2 0 hsc (fun _ _ => rfl) (fun k hk => absurd hk (by omega))

theorem c_stays {T : xT} {n : Nat} {sh : Nat → Nat × Nat} {I : xI} {R : xR} {L : xL} {P : xPost} {lr nw im tr rd hu se ac M : Nat} (hG : GEO sh R lr nw im tr rd hu se ac M) {V : xV} {B rc : Nat} {ars : Nat → xAR} (h : FSC I nw V) (hv : VOK V B) (hB : B < 800000) (hr : cRings I lr rc ars) (hV6 : V 8 6 ≤ rc) (hRn : R nw 11 = rgRef V) {t m : Nat} (ht : t < 64) (hm : m ≤ 6) (K1 : ∀ (J : xI) (Q : xR), cmP V (rgVal ars V) t m = true → trP tr I J → trR tr R Q → P (n, sh, 0, 0) J Q L (some (.int 1))) (K2 : ∀ (J : xI) (Q : xR), cmP V (rgVal ars V) t m = false → trP tr I J → trR tr R Q → P (n, sh, 0, 0) J Q L (some (.int 0))) : XM T zX9_staysCalm 6 [.ref lr, .int (nI t), .int (nI m)] n sh I R L P := by
  by_cases h0 : V 8 6 = 0
  · exact c_stays0 hG h hv hB hr hV6 hRn ht hm h0 K1 K2
  · exact c_stays1 hG h hv hB hr hV6 hRn ht hm h0 K1 K2

theorem cmS_0 {V : xV} {o : Option xAR} {m j : Nat} (h : wtF (V 8 3) j m = 0) : cmS V o m j = 0 := by
  unfold cmS
  split
  · exact h
  · rfl

set_option maxHeartbeats 4000000 in
set_option maxRecDepth 100000 in
theorem l_calm {T : xT} {n : Nat} {sh : Nat → Nat × Nat} {I : xI} {R : xR} {L : xL} {P : xPost} {lr nw im tr rd hu se ac M : Nat} (hG : GEO sh R lr nw im tr rd hu se ac M) {V : xV} {B rc : Nat} {ars : Nat → xAR} (h : FSC I nw V) (hv : VOK V B) (hB : B < 800000) (hr : cRings I lr rc ars) (hV6 : V 8 6 ≤ rc) (hRn : R nw 11 = rgRef V) {m : Nat} {y : Int32} (h1m : 1 ≤ m) (hm : m ≤ 6) (K : ∀ (I2 : xI) (R2 : xR), trP tr I I2 → trR tr R R2 → X T zX9_calm 7 0 0 P 73 [(0, .ref lr), (1, .int (nI m)), (2, .int y), (3, .long (lN (abF V (rgVal ars V) m (2 ^ m)))), (5, .int (nI (2 ^ m)))] [] (n, sh, 0, 0) I2 R2 L)  : ∀ (w i : Nat), i + w = 2 ^ m → ∀ (J : xI) (Q : xR), trP tr I J → trR tr R Q → X T zX9_calm 7 0 0 P 28 [(0, .ref lr), (1, .int (nI m)), (2, .int y), (3, .long (lN (abF V (rgVal ars V) m i))), (5, .int (nI i))] [] (n, sh, 0, 0) (J) Q L := by
  obtain ⟨v6, v12, v10, vb, vf, vw, vm, vta, vte, vod, vrg, vdi⟩ := id hv
  have e1 := hG.g_e_nw
  have e2 := hG.g_e_tr
  have e3 := hG.g_e_x
  have e4 := hG.g_e_im
  have hp := pw64 hm
  intro w
  induction w with
  | zero =>
    intro i hw J Q fj fq
    have hz : i = 2 ^ m := by omega
    have hG := hG.keepR (fun a k hk => fq a k (Or.inr hk))
    have hfn : FSC J nw V := h.keep (fun a p1 p2 => fj a (by omega))
    have hrJ := hr.keep (congrFun (fj lr (by omega)) 6) (fun a p1 p2 => fj a (by omega))
    have hRQ : Q nw 11 = rgRef V := (fq nw 11 (Or.inl (by omega))).trans hRn
    refine x_iload (pc := 28) dX9_calm_28 rfl ?_
    refine x_iconst (pc := 30) (v := 1) dX9_calm_30 (by decide) ?_
    refine x_iload_n (pc := 31) dX9_calm_31 rfl rfl ?_
    refine x_ishl (pc := 32) dX9_calm_32 ?_
    rw [sh1 m (by omega)]
    refine x_icmpn_ge_t (pc := 33) (tgt := 73) (a := i) (b := (2 ^ m)) dX9_calm_33 (by decide) (by omega) (by omega) (by omega) ?_
    rw [hz]
    exact K J Q fj fq
  | succ w ih =>
    intro i hw J Q fj fq
    have hi : i < 2 ^ m := by omega
    have hG := hG.keepR (fun a k hk => fq a k (Or.inr hk))
    have hfn : FSC J nw V := h.keep (fun a p1 p2 => fj a (by omega))
    have hrJ := hr.keep (congrFun (fj lr (by omega)) 6) (fun a p1 p2 => fj a (by omega))
    have hRQ : Q nw 11 = rgRef V := (fq nw 11 (Or.inl (by omega))).trans hRn
    refine x_iload (pc := 28) dX9_calm_28 rfl ?_
    refine x_iconst (pc := 30) (v := 1) dX9_calm_30 (by decide) ?_
    refine x_iload_n (pc := 31) dX9_calm_31 rfl rfl ?_
    refine x_ishl (pc := 32) dX9_calm_32 ?_
    rw [sh1 m (by omega)]
    refine x_icmpn_ge_f (pc := 33) (tgt := 73) (a := i) (b := (2 ^ m)) dX9_calm_33 (by decide) (by omega) (by omega) (by omega) ?_
    refine x_aload_n (pc := 36) dX9_calm_36 rfl rfl ?_
    refine x_iload (pc := 37) dX9_calm_37 rfl ?_
    refine x_iload_n (pc := 39) dX9_calm_39 rfl rfl ?_
    refine x_callV (pc := 40) (As := [.int _, .int _]) dX9_calm_40 km_X9_weightOf kv_X9_weightOf kl_RX9_255 hG.g_x rfl rfl (by decide) ⟨Nat.le_refl _, Nat.le_refl _⟩ rfl (Nat.le_of_ble_eq_true rfl) (Nat.le_of_ble_eq_true rfl) (c_weightOf hG hfn hv (show i < 64 by omega) hm hi (⟨rfl, rfl, ?_⟩))
    have w6 := wt_le (V 8 3) (by omega) m (by omega) i (by omega)
    refine x_lstore (pc := 43) (lv' := [(0, .ref lr), (1, .int (nI m)), (2, .int y), (3, .long (lN (abF V (rgVal ars V) m i))), (5, .int (nI i)), (6, .long (lN (wtF (V 8 3) i m)))]) dX9_calm_43 (by decide) rfl ?_
    refine x_lload (pc := 45) dX9_calm_45 rfl ?_
    refine x_lconst (pc := 47) (v := 0) dX9_calm_47 (by decide) ?_
    refine x_lcmp (pc := 48) dX9_calm_48 ?_
    refine x_if_le (pc := 49) (tgt := 67) dX9_calm_49 (by decide) (fun c49 => ?_) (fun c49 => ?_)
    · skip
      refine x_iinc (pc := 67) (v := nI (i + 1)) (lv' := [(0, .ref lr), (1, .int (nI m)), (2, .int y), (3, .long (lN (abF V (rgVal ars V) m i))), (5, .int (nI (i + 1))), (6, .long (lN (wtF (V 8 3) i m)))]) dX9_calm_67 rfl (nI_1 _) (by decide) rfl ?_
      refine x_goto (pc := 70) (tgt := 28) dX9_calm_70 (by decide) ?_
      first | (have h9 := ih (i + 1) (by omega) J2 Q2 (fun a ha => (f2 a ha).trans (fj a ha)) (fq.tr r2); rw [show abF V (rgVal ars V) m (i + 1) = abF V (rgVal ars V) m i from congrArg (fun z => abF V (rgVal ars V) m i + z) (if_neg (by rw [hc]; decide))] at h9; exact X.keep [0, 1, 2, 3, 5] rfl h9) | (have h9 := ih (i + 1) (by omega) J Q fj fq; rw [show abF V (rgVal ars V) m (i + 1) = abF V (rgVal ars V) m i from congrArg (fun z => abF V (rgVal ars V) m i + z) (cmS_0 (Nat.le_zero.mp ((pk_lLE (b := 0) (by omega) (by decide)).mp ((lg_cmp_le _ _).mp c49))))] at h9; exact X.keep [0, 1, 2, 3, 5] rfl h9)
    · skip
      refine x_aload_n (pc := 52) dX9_calm_52 rfl rfl ?_
      refine x_iload (pc := 53) dX9_calm_53 rfl ?_
      refine x_iload_n (pc := 55) dX9_calm_55 rfl rfl ?_
      refine x_callV (pc := 56) (As := [.int _, .int _]) dX9_calm_56 km_X9_staysCalm kv_X9_staysCalm kl_RX9_259 hG.g_x rfl rfl (by decide) ⟨Nat.le_refl _, Nat.le_refl _⟩ rfl (Nat.le_of_ble_eq_true rfl) (Nat.le_of_ble_eq_true rfl) (c_stays hG hfn hv hB hrJ hV6 hRQ (show i < 64 by omega) hm (fun J2 Q2 hc f2 r2 => ⟨rfl, rfl, ?_⟩) (fun J2 Q2 hc f2 r2 => ⟨rfl, rfl, ?_⟩))
      · skip
        refine x_if_eq_f (pc := 59) (tgt := 67) dX9_calm_59 (by decide) (by decide) ?_
        refine x_lload_n (pc := 62) dX9_calm_62 rfl rfl ?_
        refine x_lload (pc := 63) dX9_calm_63 rfl ?_
        refine x_ladd (pc := 65) dX9_calm_65 ?_
        rw [lN_add]
        refine x_lstore_n (pc := 66) (lv' := [(0, .ref lr), (1, .int (nI m)), (2, .int y), (3, .long (lN (abF V (rgVal ars V) m i + wtF (V 8 3) i m))), (5, .int (nI i)), (6, .long (lN (wtF (V 8 3) i m)))]) dX9_calm_66 rfl (by decide) rfl ?_
        refine x_iinc (pc := 67) (v := nI (i + 1)) (lv' := [(0, .ref lr), (1, .int (nI m)), (2, .int y), (3, .long (lN (abF V (rgVal ars V) m i + wtF (V 8 3) i m))), (5, .int (nI (i + 1))), (6, .long (lN (wtF (V 8 3) i m)))]) dX9_calm_67 rfl (nI_1 _) (by decide) rfl ?_
        refine x_goto (pc := 70) (tgt := 28) dX9_calm_70 (by decide) ?_
        have h9 := ih (i + 1) (by omega) J2 Q2 (fun a ha => (f2 a ha).trans (fj a ha)) (fq.tr r2)
        rw [show abF V (rgVal ars V) m (i + 1) = abF V (rgVal ars V) m i + wtF (V 8 3) i m from congrArg (fun z => abF V (rgVal ars V) m i + z) (if_pos hc)] at h9
        exact X.keep [0, 1, 2, 3, 5] rfl h9
      · skip
        refine x_if_eq_t (pc := 59) (tgt := 67) dX9_calm_59 (by decide) (by decide) ?_
        refine x_iinc (pc := 67) (v := nI (i + 1)) (lv' := [(0, .ref lr), (1, .int (nI m)), (2, .int y), (3, .long (lN (abF V (rgVal ars V) m i))), (5, .int (nI (i + 1))), (6, .long (lN (wtF (V 8 3) i m)))]) dX9_calm_67 rfl (nI_1 _) (by decide) rfl ?_
        refine x_goto (pc := 70) (tgt := 28) dX9_calm_70 (by decide) ?_
        first | (have h9 := ih (i + 1) (by omega) J2 Q2 (fun a ha => (f2 a ha).trans (fj a ha)) (fq.tr r2); rw [show abF V (rgVal ars V) m (i + 1) = abF V (rgVal ars V) m i from congrArg (fun z => abF V (rgVal ars V) m i + z) (if_neg (by rw [hc]; decide))] at h9; exact X.keep [0, 1, 2, 3, 5] rfl h9) | (have h9 := ih (i + 1) (by omega) J Q fj fq; rw [show abF V (rgVal ars V) m (i + 1) = abF V (rgVal ars V) m i from congrArg (fun z => abF V (rgVal ars V) m i + z) (cmS_0 (Nat.le_zero.mp ((pk_lLE (b := 0) (by omega) (by decide)).mp ((lg_cmp_le _ _).mp c49))))] at h9; exact X.keep [0, 1, 2, 3, 5] rfl h9)

set_option maxHeartbeats 4000000 in
set_option maxRecDepth 100000 in
theorem l_calmE0 {T : xT} {n : Nat} {sh : Nat → Nat × Nat} {I : xI} {R : xR} {L : xL} {P : xPost} {lr nw im tr rd hu se ac M : Nat} (hG : GEO sh R lr nw im tr rd hu se ac M) {V : xV} {B : Nat} {ars : Nat → xAR} (hv : VOK V B) {m : Nat} (h1m : 1 ≤ m) (hm : m ≤ 6) (K : P (n, sh, 0, 0) I R L (some (.long (spCalm V (rgVal ars V) (nI m) 0))))  :  X T zX9_calm 7 0 0 P 73 [(0, .ref lr), (1, .int (nI m)), (2, .int 0), (3, .long (lN (abF V (rgVal ars V) m (2 ^ m)))), (5, .int (nI (2 ^ m)))] [] (n, sh, 0, 0) (I) R L := by
  obtain ⟨v6, v12, v10, vb, vf, vw, vm, vta, vte, vod, vrg, vdi⟩ := id hv
  have hp := pw64 hm
  have ha := abF_le (o := (rgVal ars V)) (m := m) vod (by omega) (2 ^ m) hp
  have hb := pw10 hm
  have hgp : 0 < Nat.gcd (10 ^ m) (abF V (rgVal ars V) m (2 ^ m)) := Nat.gcd_pos_of_pos_left _ (Nat.pow_pos (by decide))
  have hgl : Nat.gcd (10 ^ m) (abF V (rgVal ars V) m (2 ^ m)) ≤ 10 ^ m := Nat.gcd_le_left _ (Nat.pow_pos (by decide))
  refine x_bipush (pc := 73) (v := 10) dX9_calm_73 (by decide) ?_
  refine x_iload_n (pc := 75) dX9_calm_75 rfl rfl ?_
  refine x_callS (pc := 76) (As := [.int _, .int _]) dX9_calm_76 km_X9_power ks_X9_power kl_RX9_262 rfl (by decide) ⟨Nat.le_refl _, Nat.le_refl _⟩ rfl (Nat.le_of_ble_eq_true rfl) (Nat.le_of_ble_eq_true rfl) (c_power (b := 10) (e := m) (by decide) hm (⟨rfl, rfl, ?_⟩))
  refine x_lstore (pc := 79) (lv' := [(0, .ref lr), (1, .int (nI m)), (2, .int 0), (3, .long (lN (abF V (rgVal ars V) m (2 ^ m)))), (5, .long (lN (10 ^ m)))]) dX9_calm_79 (by decide) rfl ?_
  refine x_lload_n (pc := 81) dX9_calm_81 rfl rfl ?_
  refine x_lload (pc := 82) dX9_calm_82 rfl ?_
  refine x_callS (pc := 84) (As := [.long _, .long _]) dX9_calm_84 km_X9_sharedDivisor ks_X9_sharedDivisor kl_RX9_265 rfl (by decide) ⟨Nat.le_refl _, Nat.le_refl _⟩ rfl (Nat.le_of_ble_eq_true rfl) (Nat.le_of_ble_eq_true rfl) (c_gcd (A := abF V (rgVal ars V) m (2 ^ m)) (B := 10 ^ m) (by omega) (pw10 hm) (Nat.pow_pos (by decide)) (⟨rfl, rfl, ?_⟩))
  refine x_lstore (pc := 87) (lv' := [(0, .ref lr), (1, .int (nI m)), (2, .int 0), (3, .long (lN (abF V (rgVal ars V) m (2 ^ m)))), (5, .long (lN (10 ^ m))), (7, .long (lN (Nat.gcd (10 ^ m) (abF V (rgVal ars V) m (2 ^ m)))))]) dX9_calm_87 (by decide) rfl ?_
  refine x_lload (pc := 89) dX9_calm_89 rfl ?_
  refine x_lconst (pc := 91) (v := 0) dX9_calm_91 (by decide) ?_
  refine x_lcmp (pc := 92) dX9_calm_92 ?_
  refine x_if_gt_t (pc := 93) (tgt := 100) dX9_calm_93 (by decide) ((lg_cmp_gt _ _).mpr ((pk_lLT (a := 0) (by decide) (by omega)).mpr hgp)) ?_
  refine x_iload_n (pc := 100) dX9_calm_100 rfl rfl ?_
  refine x_if_ne_f (pc := 101) (tgt := 108) dX9_calm_101 (by decide) (by decide) ?_
  refine x_lload_n (pc := 104) dX9_calm_104 rfl rfl ?_
  refine x_goto (pc := 105) (tgt := 110) dX9_calm_105 (by decide) ?_
  refine x_lload (pc := 110) dX9_calm_110 rfl ?_
  refine x_ldiv (pc := 112) dX9_calm_112 (fun q => absurd ((pk_lEQ (b := 0) (by omega) (by decide)).mp q) (by omega)) ?_
  refine x_lreturn (pc := 113) dX9_calm_113 rfl ⟨Nat.le_refl _, Nat.le_refl _⟩ ?_
  rw [spCalm_0 h1m hm] at K
  rw [pk_lDiv (by omega) hgp (by omega)]
  exact K

set_option maxHeartbeats 4000000 in
set_option maxRecDepth 100000 in
theorem l_calmE1 {T : xT} {n : Nat} {sh : Nat → Nat × Nat} {I : xI} {R : xR} {L : xL} {P : xPost} {lr nw im tr rd hu se ac M : Nat} (hG : GEO sh R lr nw im tr rd hu se ac M) {V : xV} {B : Nat} {ars : Nat → xAR} (hv : VOK V B) {m : Nat} (h1m : 1 ≤ m) (hm : m ≤ 6) (K : P (n, sh, 0, 0) I R L (some (.long (spCalm V (rgVal ars V) (nI m) 1))))  :  X T zX9_calm 7 0 0 P 73 [(0, .ref lr), (1, .int (nI m)), (2, .int 1), (3, .long (lN (abF V (rgVal ars V) m (2 ^ m)))), (5, .int (nI (2 ^ m)))] [] (n, sh, 0, 0) (I) R L := by
  obtain ⟨v6, v12, v10, vb, vf, vw, vm, vta, vte, vod, vrg, vdi⟩ := id hv
  have hp := pw64 hm
  have ha := abF_le (o := (rgVal ars V)) (m := m) vod (by omega) (2 ^ m) hp
  have hb := pw10 hm
  have hgp : 0 < Nat.gcd (10 ^ m) (abF V (rgVal ars V) m (2 ^ m)) := Nat.gcd_pos_of_pos_left _ (Nat.pow_pos (by decide))
  have hgl : Nat.gcd (10 ^ m) (abF V (rgVal ars V) m (2 ^ m)) ≤ 10 ^ m := Nat.gcd_le_left _ (Nat.pow_pos (by decide))
  refine x_bipush (pc := 73) (v := 10) dX9_calm_73 (by decide) ?_
  refine x_iload_n (pc := 75) dX9_calm_75 rfl rfl ?_
  refine x_callS (pc := 76) (As := [.int _, .int _]) dX9_calm_76 km_X9_power ks_X9_power kl_RX9_262 rfl (by decide) ⟨Nat.le_refl _, Nat.le_refl _⟩ rfl (Nat.le_of_ble_eq_true rfl) (Nat.le_of_ble_eq_true rfl) (c_power (b := 10) (e := m) (by decide) hm (⟨rfl, rfl, ?_⟩))
  refine x_lstore (pc := 79) (lv' := [(0, .ref lr), (1, .int (nI m)), (2, .int 1), (3, .long (lN (abF V (rgVal ars V) m (2 ^ m)))), (5, .long (lN (10 ^ m)))]) dX9_calm_79 (by decide) rfl ?_
  refine x_lload_n (pc := 81) dX9_calm_81 rfl rfl ?_
  refine x_lload (pc := 82) dX9_calm_82 rfl ?_
  refine x_callS (pc := 84) (As := [.long _, .long _]) dX9_calm_84 km_X9_sharedDivisor ks_X9_sharedDivisor kl_RX9_265 rfl (by decide) ⟨Nat.le_refl _, Nat.le_refl _⟩ rfl (Nat.le_of_ble_eq_true rfl) (Nat.le_of_ble_eq_true rfl) (c_gcd (A := abF V (rgVal ars V) m (2 ^ m)) (B := 10 ^ m) (by omega) (pw10 hm) (Nat.pow_pos (by decide)) (⟨rfl, rfl, ?_⟩))
  refine x_lstore (pc := 87) (lv' := [(0, .ref lr), (1, .int (nI m)), (2, .int 1), (3, .long (lN (abF V (rgVal ars V) m (2 ^ m)))), (5, .long (lN (10 ^ m))), (7, .long (lN (Nat.gcd (10 ^ m) (abF V (rgVal ars V) m (2 ^ m)))))]) dX9_calm_87 (by decide) rfl ?_
  refine x_lload (pc := 89) dX9_calm_89 rfl ?_
  refine x_lconst (pc := 91) (v := 0) dX9_calm_91 (by decide) ?_
  refine x_lcmp (pc := 92) dX9_calm_92 ?_
  refine x_if_gt_t (pc := 93) (tgt := 100) dX9_calm_93 (by decide) ((lg_cmp_gt _ _).mpr ((pk_lLT (a := 0) (by decide) (by omega)).mpr hgp)) ?_
  refine x_iload_n (pc := 100) dX9_calm_100 rfl rfl ?_
  refine x_if_ne_t (pc := 101) (tgt := 108) dX9_calm_101 (by decide) (by decide) ?_
  refine x_lload (pc := 108) dX9_calm_108 rfl ?_
  refine x_lload (pc := 110) dX9_calm_110 rfl ?_
  refine x_ldiv (pc := 112) dX9_calm_112 (fun q => absurd ((pk_lEQ (b := 0) (by omega) (by decide)).mp q) (by omega)) ?_
  refine x_lreturn (pc := 113) dX9_calm_113 rfl ⟨Nat.le_refl _, Nat.le_refl _⟩ ?_
  rw [spCalm_1 h1m hm] at K
  rw [pk_lDiv (by omega) hgp (by omega)]
  exact K

set_option maxHeartbeats 4000000 in
set_option maxRecDepth 100000 in
theorem c_calm {T : xT} {n : Nat} {sh : Nat → Nat × Nat} {I : xI} {R : xR} {L : xL} {P : xPost} {lr nw im tr rd hu se ac M : Nat} (hG : GEO sh R lr nw im tr rd hu se ac M) {V : xV} {B rc : Nat} {ars : Nat → xAR} (h : FSC I nw V) (hv : VOK V B) (hB : B < 800000) (hr : cRings I lr rc ars) (hV6 : V 8 6 ≤ rc) (hRn : R nw 11 = rgRef V) {x y : Int32} (K : ∀ (I2 : xI) (R2 : xR), trP tr I I2 → trR tr R R2 → P (n, sh, 0, 0) I2 R2 L (some (.long (spCalm V (rgVal ars V) x y))))  : XM T zX9_calm 7 [.ref lr, .int x, .int y] n sh I R L P := by
  obtain ⟨v6, v12, v10, vb, vf, vw, vm, vta, vte, vod, vrg, vdi⟩ := id hv
  have e1 := hG.g_e_nw
  have e2 := hG.g_e_tr
  have e3 := hG.g_e_x
  have e4 := hG.g_e_im
  refine x_iload_n (pc := 0) dX9_calm_0 rfl rfl ?_
  refine x_iconst (pc := 1) (v := 1) dX9_calm_1 (by decide) ?_
  refine x_bipush (pc := 2) (v := 6) dX9_calm_2 (by decide) ?_
  refine x_callS (pc := 4) (As := [.int _, .int _, .int _]) dX9_calm_4 km_X9_isWithin ks_X9_isWithin kl_RX9_81 rfl (by decide) ⟨Nat.le_refl _, Nat.le_refl _⟩ rfl (Nat.le_of_ble_eq_true rfl) (Nat.le_of_ble_eq_true rfl) (c_isWithin (fun p1 p2 => ⟨rfl, rfl, ?_⟩) (fun g1 => ⟨rfl, rfl, ?_⟩))
  · skip
    obtain ⟨m, h1m, hm, em⟩ := m1_k p1 p2
    subst em
    refine x_if_eq_f (pc := 7) (tgt := 19) dX9_calm_7 (by decide) (by decide) ?_
    refine x_iload_n (pc := 10) dX9_calm_10 rfl rfl ?_
    refine x_iconst (pc := 11) (v := 0) dX9_calm_11 (by decide) ?_
    refine x_iconst (pc := 12) (v := 1) dX9_calm_12 (by decide) ?_
    refine x_callS (pc := 13) (As := [.int _, .int _, .int _]) dX9_calm_13 km_X9_isWithin ks_X9_isWithin kl_RX9_81 rfl (by decide) ⟨Nat.le_refl _, Nat.le_refl _⟩ rfl (Nat.le_of_ble_eq_true rfl) (Nat.le_of_ble_eq_true rfl) (c_isWithin (fun p3 p4 => ⟨rfl, rfl, ?_⟩) (fun g2 => ⟨rfl, rfl, ?_⟩))
    · skip
      refine x_if_ne_t (pc := 16) (tgt := 23) dX9_calm_16 (by decide) (by decide) ?_
      refine x_lconst (pc := 23) (v := 0) dX9_calm_23 (by decide) ?_
      refine x_lstore_n (pc := 24) (lv' := [(0, .ref lr), (1, .int (nI m)), (2, .int y), (3, .long 0)]) dX9_calm_24 rfl (by decide) rfl ?_
      refine x_iconst (pc := 25) (v := 0) dX9_calm_25 (by decide) ?_
      refine x_istore (pc := 26) (lv' := [(0, .ref lr), (1, .int (nI m)), (2, .int y), (3, .long 0), (5, .int 0)]) dX9_calm_26 (by decide) rfl ?_
      refine l_calm hG h hv hB hr hV6 hRn h1m hm (fun I2 R2 f2 r2 => ?_) (2 ^ m) 0 (by omega) I R (fun _ _ => rfl) trR.rf
      have hG2 := hG.keepR (fun a k hk => r2 a k (Or.inr hk))
      rcases i01 p3 p4 with ey | ey <;> subst ey
      · exact l_calmE0 hG2 hv h1m hm (K I2 R2 f2 r2)
      · exact l_calmE1 hG2 hv h1m hm (K I2 R2 f2 r2)
    · skip
      refine x_if_ne_f (pc := 16) (tgt := 23) dX9_calm_16 (by decide) (by decide) ?_
      refine x_ldc2 (pc := 19) (v := -9223372036854775808) dX9_calm_19 kk_RX9_253 ?_
      refine x_lreturn (pc := 22) dX9_calm_22 rfl ⟨Nat.le_refl _, Nat.le_refl _⟩ ?_
      have e9 : spCalm V (rgVal ars V) (nI m) y = -9223372036854775808 := spCalm_n (by first | exact Or.inl g1 | exact Or.inr g2)
      have h9 := K I R (fun _ _ => rfl) trR.rf
      rw [e9] at h9
      exact h9
  · skip
    refine x_if_eq_t (pc := 7) (tgt := 19) dX9_calm_7 (by decide) (by decide) ?_
    refine x_ldc2 (pc := 19) (v := -9223372036854775808) dX9_calm_19 kk_RX9_253 ?_
    refine x_lreturn (pc := 22) dX9_calm_22 rfl ⟨Nat.le_refl _, Nat.le_refl _⟩ ?_
    have e9 : spCalm V (rgVal ars V) (x) y = -9223372036854775808 := spCalm_n (by first | exact Or.inl g1 | exact Or.inr g2)
    have h9 := K I R (fun _ _ => rfl) trR.rf
    rw [e9] at h9
    exact h9

