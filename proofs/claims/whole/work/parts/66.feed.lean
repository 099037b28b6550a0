/-! ===== feed: both sides ===== -/
/-- byte k of a number; as the reference keeps it -/
def byt (x : Int32) (k : Nat) : Nat := x.toBitVec.toNat / 2 ^ (8 * k) % 256
def sx (b : Nat) : Int32 := (nI b).toInt8.toInt32
theorem byt_lt {x : Int32} {k : Nat} : byt x k < 256 := Nat.mod_lt _ (by decide)
theorem byt_c {x : Int32} {k : Nat} (hk : k < 4) : xushr x (nI (8 * k)) &&& 255 = nI (byt x k) := by
  unfold xushr byt
  rw [pk_and _ 8 (by decide)]
  rcases k with _|_|_|_|k
  · rw [pk_ushr x (nI (8 * 0)) 0 (by decide)]
  · rw [pk_ushr x (nI (8 * 1)) 8 (by decide)]
  · rw [pk_ushr x (nI (8 * 2)) 16 (by decide)]
  · rw [pk_ushr x (nI (8 * 3)) 24 (by decide)]
  · omega
theorem byt_t (X : Nat) (h : X < 2 ^ 32) (Z : Int) (hZ : Z = X ∨ Z = (X : Int) - 2 ^ 32) : (Z % 256 = ((X % 256 : Nat) : Int)) ∧ (Z / 256 % 256 = ((X / 256 % 256 : Nat) : Int)) ∧ (Z / 65536 % 256 = ((X / 65536 % 256 : Nat) : Int)) ∧ (Z / 16777216 % 256 = ((X / 16777216 % 256 : Nat) : Int)) := by
  rcases hZ with q | q <;> subst q <;> omega
theorem i8_eq {a b : Int32} (h : a.toInt % 256 = b.toInt % 256) : a.toInt8 = b.toInt8 := by
  refine Int8.toInt.inj ?_
  rw [Int32.toInt_toInt8, Int32.toInt_toInt8]
  show a.toInt.bmod 256 = b.toInt.bmod 256
  rw [← Int.emod_bmod a.toInt 256, ← Int.emod_bmod b.toInt 256]
  exact congrArg (fun z => Int.bmod z 256) h
theorem byt_m {x : Int32} {k : Nat} (hk : k < 4) : (x >>> (nI (8 * k) &&& 31)).toInt8.toInt32 = sx (byt x k) := by
  have hX : x.toBitVec.toNat < 2 ^ 32 := x.toBitVec.isLt
  have hZ : x.toInt = (x.toBitVec.toNat : Int) ∨ x.toInt = (x.toBitVec.toNat : Int) - 2 ^ 32 := by
    have : x.toInt = x.toBitVec.toInt := rfl
    rw [this, BitVec.toInt_eq_toNat_cond]
    split
    · exact Or.inl rfl
    · exact Or.inr rfl
  have T := byt_t x.toBitVec.toNat hX x.toInt hZ
  have hb := @byt_lt x k
  unfold sx
  refine congrArg Int8.toInt32 (i8_eq ?_)
  rw [nI_toInt (by omega)]
  unfold byt at hb ⊢
  rcases k with _|_|_|_|k
  · rw [pk_shr x (nI (8 * 0) &&& 31) 0 (by decide), Int.shiftRight_eq_div_pow]
    have := T.1
    show x.toInt / 1 % 256 = ((x.toBitVec.toNat / 1 % 256 : Nat) : Int) % 256
    omega
  · rw [pk_shr x (nI (8 * 1) &&& 31) 8 (by decide), Int.shiftRight_eq_div_pow]
    have := T.2.1
    show x.toInt / 256 % 256 = ((x.toBitVec.toNat / 256 % 256 : Nat) : Int) % 256
    omega
  · rw [pk_shr x (nI (8 * 2) &&& 31) 16 (by decide), Int.shiftRight_eq_div_pow]
    have := T.2.2.1
    show x.toInt / 65536 % 256 = ((x.toBitVec.toNat / 65536 % 256 : Nat) : Int) % 256
    omega
  · rw [pk_shr x (nI (8 * 3) &&& 31) 24 (by decide), Int.shiftRight_eq_div_pow]
    have := T.2.2.2
    show x.toInt / 16777216 % 256 = ((x.toBitVec.toNat / 16777216 % 256 : Nat) : Int) % 256
    omega
  · omega
theorem dec_eq (a : Int32) : a + -1 = a - 1 := (Int32.sub_eq_add_neg a 1).symm
/-- the text: how many bytes, which -/
abbrev xX : Type := Nat × (Nat → Nat)
def fdF (f : Nat → Nat) (m : Nat) (x : Int32) (k : Nat) (n : Nat) : Nat → Nat := fun i => if m ≤ i ∧ i < m + k then byt x (n - 1 - (i - m)) else f i
theorem fdF_0 {f : Nat → Nat} {m n : Nat} {x : Int32} : fdF f m x 0 n = f := funext fun i => if_neg (by omega)
theorem fdF_o {f : Nat → Nat} {m k n i : Nat} {x : Int32} (h : i < m + k) : fdF f m x (k + 1) n i = fdF f m x k n i := by
  unfold fdF
  by_cases q : m ≤ i
  · rw [if_pos ⟨q, by omega⟩, if_pos ⟨q, h⟩]
  · rw [if_neg (fun z => q z.1), if_neg (fun z => q z.1)]
theorem fdF_s {f : Nat → Nat} {m k n : Nat} {x : Int32} : fdF f m x (k + 1) n (m + k) = byt x (n - 1 - k) := by
  unfold fdF
  rw [if_pos ⟨by omega, by omega⟩, show m + k - m = k by omega]
def spFeed (t : xX) (x n : Int32) : Int32 × xX := if n < 0 ∨ 4 < n then (-2, t) else if 100 < t.1 + n.toNatClampNeg then (-4, t) else (nI (t.1 + n.toNatClampNeg), t.1 + n.toNatClampNeg, fdF t.2 t.1 x n.toNatClampNeg n.toNatClampNeg)
def XOK (t : xX) : Prop := t.1 ≤ 100 ∧ ∀ i, i < t.1 → t.2 i < 256
theorem XOK.feed {t : xX} {x n : Int32} (h : XOK t) : XOK (spFeed t x n).2 := by
  unfold spFeed
  split
  · exact h
  · split
    · exact h
    · refine ⟨by show t.1 + n.toNatClampNeg ≤ 100; omega, fun i hi => ?_⟩
      show (if t.1 ≤ i ∧ i < t.1 + n.toNatClampNeg then byt x (n.toNatClampNeg - 1 - (i - t.1)) else t.2 i) < 256
      have hi : i < t.1 + n.toNatClampNeg := hi
      split
      · exact byt_lt
      · exact h.2 i (by omega)
theorem spFeed_b {t : xX} {x n : Int32} (h : n < 0 ∨ 4 < n) : spFeed t x n = (-2, t) := if_pos h
theorem n4 {k : Nat} (hk : k < 5) : ¬ (nI k < 0 ∨ 4 < nI k) := fun q => q.elim (nI_pos (by omega)) (fun q => absurd ((nI_ltI (a := 4) (by decide) (by omega)).mp q) (by omega))
theorem spFeed_f {t : xX} {x : Int32} {k : Nat} (hk : k < 5) (h : 100 < t.1 + k) : spFeed t x (nI k) = (-4, t) := by
  unfold spFeed
  rw [if_neg (n4 hk), nI_clamp (by omega), if_pos h]
theorem spFeed_s {t : xX} {x : Int32} {k : Nat} (hk : k < 5) (h : ¬ 100 < t.1 + k) : spFeed t x (nI k) = (nI (t.1 + k), t.1 + k, fdF t.2 t.1 x k k) := by
  unfold spFeed
  rw [if_neg (n4 hk), nI_clamp (by omega), if_neg h]

set_option maxHeartbeats 4000000 in
set_option maxRecDepth 100000 in
theorem l_feed {T : xT} {n : Nat} {sh : Nat → Nat × Nat} {I : xI} {R : xR} {L : xL} {P : xPost} {lr nw im tr rd hu se ac M : Nat} (hG : GEO sh R lr nw im tr rd hu se ac M) {t : xX} (ht : bRow I (rd + 1) t.1 t.2) (h100 : t.1 ≤ 100) {x : Int32} {k : Nat} (hk : k < 5) (hk2 : t.1 + k ≤ 100) (K : ∀ I2 : xI, bRow I2 (rd + 1) (t.1 + k) (fdF t.2 t.1 x k k) → (∀ a, a ≠ rd + 1 → a ≠ rd + 2 → I2 a = I a) → P (n, sh, 0, 0) I2 R L (some (.int (nI (t.1 + k)))))  : ∀ (w i : Nat), i + w = k → ∀ (J : xI), bRow J (rd + 1) (t.1 + i) (fdF t.2 t.1 x i k) → (∀ a, a ≠ rd + 1 → a ≠ rd + 2 → J a = I a) → X T zX9_feed 1 0 0 P 36 [(0, .ref lr), (1, .int x), (2, .int (nI k)), (3, .int (nI w - 1))] [] (n, sh, 0, 0) (J) R L := by
  intro w
  induction w with
  | zero =>
    intro i hw J fj gj
    have hz : i = k := by omega
    refine x_iload_n (pc := 36) dX9_feed_36 rfl rfl ?_
    refine x_if_lt_t (pc := 37) (tgt := 66) dX9_feed_37 (by decide) (by decide) ?_
    refine x_aload_n (pc := 66) dX9_feed_66 rfl rfl ?_
    refine x_getr (pc := 67) dX9_feed_67 kf_RX9_31 hG.g_x rfl hG.g_f4 ?_
    refine x_getr (pc := 70) dX9_feed_70 kf_RX9_162 hG.g_rd rfl hG.g_rd0 ?_
    refine x_get (pc := 73) dX9_feed_73 kf_RX9_165 hG.g_text.1 rfl ?_
    rw [fj.1]
    refine x_ireturn (pc := 76) dX9_feed_76 ⟨_, rfl, rfl⟩ ⟨Nat.le_refl _, Nat.le_refl _⟩ ?_
    rw [hz] at fj ⊢
    exact K J fj gj
  | succ w ih =>
    intro i hw J fj gj
    have hi : i < k := by omega
    rw [show nI (w + 1) - 1 = nI w from pk_sub (b := 1) (by omega)]
    refine x_iload_n (pc := 36) dX9_feed_36 rfl rfl ?_
    refine x_ifn_lt (pc := 37) (a := w) dX9_feed_37 ⟨66, by decide⟩ (by omega) ?_
    refine x_aload_n (pc := 40) dX9_feed_40 rfl rfl ?_
    refine x_getr (pc := 41) dX9_feed_41 kf_RX9_31 hG.g_x rfl hG.g_f4 ?_
    refine x_getr (pc := 44) dX9_feed_44 kf_RX9_162 hG.g_rd rfl hG.g_rd0 ?_
    refine x_iload_n (pc := 47) dX9_feed_47 rfl rfl ?_
    refine x_bipush (pc := 48) (v := 8) dX9_feed_48 (by decide) ?_
    refine x_iload_n (pc := 50) dX9_feed_50 rfl rfl ?_
    refine x_imuln (pc := 51) (a := 8) (b := w) dX9_feed_51 ?_
    refine x_iushr (pc := 52) dX9_feed_52 ?_
    refine x_sipush (pc := 53) (v := 255) dX9_feed_53 (by decide) ?_
    refine x_iand (pc := 56) dX9_feed_56 ?_
    rw [byt_c (show w < 4 by omega)]
    refine x_callV (pc := 57) (As := [.int _]) dX9_feed_57 km_X5_add kv_X5_add kl_RX9_167 hG.g_text.1 rfl rfl (by decide) ⟨Nat.le_refl _, Nat.le_refl _⟩ rfl (Nat.le_of_ble_eq_true rfl) (Nat.le_of_ble_eq_true rfl) (c_add (m := t.1 + i) hG.g_text fj.1 (by omega) (⟨rfl, rfl, ?_⟩))
    obtain ⟨v60, ev60⟩ : ∃ y : Int32, y = (nI w) + (-1) := ⟨_, rfl⟩
    refine x_iinc (pc := 60) (v := v60) (lv' := [(0, .ref lr), (1, .int x), (2, .int (nI k)), (3, .int v60)]) dX9_feed_60 rfl (by rw [ev60]; rfl) (by decide) rfl ?_
    refine x_goto (pc := 63) (tgt := 36) dX9_feed_63 (by decide) ?_
    subst ev60
    rw [dec_eq]
    refine ih (i + 1) (by omega) _ ⟨up2_s, fun j hj => ?_⟩ (fun a p1 p2 => (up2_row p1).trans ((up2_row p2).trans (gj a p1 p2)))
    rw [up2_row (show rd + 1 + 1 ≠ rd + 1 by omega)]
    rcases Nat.lt_succ_iff_lt_or_eq.mp (show j < t.1 + i + 1 from hj) with e | e
    · rw [show rd + 1 + 1 = rd + 2 from rfl, up2_k (by omega), fdF_o e]
      exact fj.2 j e
    · rw [e, show rd + 1 + 1 = rd + 2 from rfl, up2_s, fdF_s, show k - 1 - i = w by omega]

set_option maxHeartbeats 4000000 in
set_option maxRecDepth 100000 in
theorem c_feedIt {T : xT} {n : Nat} {sh : Nat → Nat × Nat} {I : xI} {R : xR} {L : xL} {P : xPost} {lr nw im tr rd hu se ac M : Nat} (hG : GEO sh R lr nw im tr rd hu se ac M) {t : xX} (ht : bRow I (rd + 1) t.1 t.2) (h100 : t.1 ≤ 100) {x y : Int32} (K : ∀ I2 : xI, bRow I2 (rd + 1) (spFeed t x y).2.1 (spFeed t x y).2.2 → (∀ a, a ≠ rd + 1 → a ≠ rd + 2 → I2 a = I a) → P (n, sh, 0, 0) I2 R L (some (.int (spFeed t x y).1)))  : XM T zX9_feed 1 [.ref lr, .int x, .int y] n sh I R L P := by
  refine x_iload_n (pc := 0) dX9_feed_0 rfl rfl ?_
  refine x_iconst (pc := 1) (v := 0) dX9_feed_1 (by decide) ?_
  refine x_iconst (pc := 2) (v := 4) dX9_feed_2 (by decide) ?_
  refine x_callS (pc := 3) (As := [.int _, .int _, .int _]) dX9_feed_3 km_X9_isWithin ks_X9_isWithin kl_RX9_81 rfl (by decide) ⟨Nat.le_refl _, Nat.le_refl _⟩ rfl (Nat.le_of_ble_eq_true rfl) (Nat.le_of_ble_eq_true rfl) (c_isWithin (fun p1 p2 => ⟨rfl, rfl, ?_⟩) (fun g1 => ⟨rfl, rfl, ?_⟩))
  · skip
    obtain ⟨k, hk, ek⟩ := s5_k p1 p2
    subst ek
    refine x_if_ne_t (pc := 6) (tgt := 12) dX9_feed_6 (by decide) (by decide) ?_
    refine x_aload_n (pc := 12) dX9_feed_12 rfl rfl ?_
    refine x_getr (pc := 13) dX9_feed_13 kf_RX9_31 hG.g_x rfl hG.g_f4 ?_
    refine x_getr (pc := 16) dX9_feed_16 kf_RX9_162 hG.g_rd rfl hG.g_rd0 ?_
    refine x_get (pc := 19) dX9_feed_19 kf_RX9_165 hG.g_text.1 rfl ?_
    rw [ht.1]
    refine x_iload_n (pc := 22) dX9_feed_22 rfl rfl ?_
    refine x_iaddn (pc := 23) (a := t.1) (b := k) dX9_feed_23 ?_
    refine x_bipush (pc := 24) (v := 100) dX9_feed_24 (by decide) ?_
    refine x_icmpn_le (pc := 26) (tgt := 32) (a := (t.1 + k)) (b := 100) dX9_feed_26 (by decide) (by omega) (by decide) (fun c26 => ?_) (fun c26 => ?_)
    · skip
      refine x_iload_n (pc := 32) dX9_feed_32 rfl rfl ?_
      refine x_iconst (pc := 33) (v := 1) dX9_feed_33 (by decide) ?_
      refine x_isub (pc := 34) dX9_feed_34 ?_
      refine x_topi (fun v35 ev35 => ?_)
      refine x_istore_n (pc := 35) (lv' := [(0, .ref lr), (1, .int x), (2, .int (nI k)), (3, .int v35)]) dX9_feed_35 rfl (by decide) rfl ?_
      subst ev35
      have e9 := spFeed_s (t := t) (x := x) hk (by omega)
      exact l_feed hG ht h100 hk (by omega) (fun I2 q1 q2 => by have h9 := K I2 (by rw [e9]; exact q1) q2; rw [e9] at h9; exact h9) k 0 (by omega) I (by rw [fdF_0]; exact ht) (fun _ _ _ => rfl)
    · skip
      refine x_bipush (pc := 29) (v := -4) dX9_feed_29 (by decide) ?_
      refine x_ireturn (pc := 31) dX9_feed_31 ⟨_, rfl, rfl⟩ ⟨Nat.le_refl _, Nat.le_refl _⟩ ?_
      have h9 := K I (by rw [spFeed_f hk (by omega)]; exact ht) (fun _ _ _ => rfl)
      rw [spFeed_f hk (by omega)] at h9
      exact h9
  · skip
    refine x_if_ne_f (pc := 6) (tgt := 12) dX9_feed_6 (by decide) (by decide) ?_
    refine x_bipush (pc := 9) (v := -2) dX9_feed_9 (by decide) ?_
    refine x_ireturn (pc := 11) dX9_feed_11 ⟨_, rfl, rfl⟩ ⟨Nat.le_refl _, Nat.le_refl _⟩ ?_
    have h9 := K I (by rw [spFeed_b g1]; exact ht) (fun _ _ _ => rfl)
    rw [spFeed_b g1] at h9
    exact h9

def mTxt (I : xI) (M : Nat) (t : xX) : Prop := I M 12 = nI t.1 ∧ ∀ i, i < t.1 → I (M + 7) i = sx (t.2 i)

set_option maxHeartbeats 4000000 in
set_option maxRecDepth 100000 in
theorem lm_feed {T : xT} {n : Nat} {sh : Nat → Nat × Nat} {I : xI} {R : xR} {L : xL} {P : xPost} {M : Nat} (hM : xModel sh R M) {t : xX} (ht : mTxt I M t) (h100 : t.1 ≤ 100) {x : Int32} {k : Nat} (hk : k < 5) (hk2 : t.1 + k ≤ 100) (K : ∀ I2 : xI, mTxt I2 M (t.1 + k, fdF t.2 t.1 x k k) → (∀ a, a ≠ M → a ≠ M + 7 → I2 a = I a) → (∀ k, k ≠ 12 → I2 M k = I M k) → P (n, sh, 0, 0) I2 R L (some (.int (nI (t.1 + k)))))  : ∀ (w i : Nat), i + w = k → ∀ (J : xI), mTxt J M (t.1 + i, fdF t.2 t.1 x i k) → (∀ a, a ≠ M → a ≠ M + 7 → J a = I a) → (∀ k, k ≠ 12 → J M k = I M k) → X T zX10_feed 1 0 0 P 31 [(0, .ref M), (1, .int x), (2, .int (nI k)), (3, .int (nI w - 1))] [] (n, sh, 0, 0) (J) R L := by
  intro w
  induction w with
  | zero =>
    intro i hw J fj gj hj
    have hz : i = k := by omega
    refine x_iload_n (pc := 31) dX10_feed_31 rfl rfl ?_
    refine x_if_lt_t (pc := 32) (tgt := 67) dX10_feed_32 (by decide) (by decide) ?_
    refine x_aload_n (pc := 67) dX10_feed_67 rfl rfl ?_
    refine x_get (pc := 68) dX10_feed_68 kf_RX10_47 hM.s rfl ?_
    rw [show J M 12 = nI (t.1 + i) from fj.1]
    refine x_ireturn (pc := 71) dX10_feed_71 ⟨_, rfl, rfl⟩ ⟨Nat.le_refl _, Nat.le_refl _⟩ ?_
    rw [hz] at fj ⊢
    exact K J fj gj hj
  | succ w ih =>
    intro i hw J fj gj hj
    have hi : i < k := by omega
    rw [show nI (w + 1) - 1 = nI w from pk_sub (b := 1) (by omega)]
    refine x_iload_n (pc := 31) dX10_feed_31 rfl rfl ?_
    refine x_ifn_lt (pc := 32) (a := w) dX10_feed_32 ⟨67, by decide⟩ (by omega) ?_
    refine x_aload_n (pc := 35) dX10_feed_35 rfl rfl ?_
    refine x_getr (pc := 36) dX10_feed_36 kf_RX10_56 hM.s rfl hM.f6 ?_
    refine x_aload_n (pc := 39) dX10_feed_39 rfl rfl ?_
    refine x_get (pc := 40) dX10_feed_40 kf_RX10_47 hM.s rfl ?_
    rw [show J M 12 = nI (t.1 + i) from fj.1]
    refine x_iload_n (pc := 43) dX10_feed_43 rfl rfl ?_
    refine x_bipush (pc := 44) (v := 8) dX10_feed_44 (by decide) ?_
    refine x_iload_n (pc := 46) dX10_feed_46 rfl rfl ?_
    refine x_imuln (pc := 47) (a := 8) (b := w) dX10_feed_47 ?_
    refine x_ishr (pc := 48) dX10_feed_48 ?_
    refine x_i2b (pc := 49) dX10_feed_49 ?_
    rw [byt_m (show w < 4 by omega)]
    refine x_iastn (pc := 50) (a := (t.1 + i)) dX10_feed_50 hM.s6 (by omega) (by omega) ?_
    refine x_aload_n (pc := 51) dX10_feed_51 rfl rfl ?_
    refine x_dup (pc := 52) dX10_feed_52 rfl ?_
    refine x_get (pc := 53) dX10_feed_53 kf_RX10_47 hM.s rfl ?_
    rw [up2_row (show M ≠ M + 7 by omega), show J M 12 = nI (t.1 + i) from fj.1]
    refine x_iconst (pc := 56) (v := 1) dX10_feed_56 (by decide) ?_
    refine x_iaddn (pc := 57) (a := (t.1 + i)) (b := 1) dX10_feed_57 ?_
    refine x_put (pc := 58) dX10_feed_58 kf_RX10_47 hM.s rfl (Or.inl kb_10_12) ?_
    obtain ⟨v61, ev61⟩ : ∃ y : Int32, y = (nI w) + (-1) := ⟨_, rfl⟩
    refine x_iinc (pc := 61) (v := v61) (lv' := [(0, .ref M), (1, .int x), (2, .int (nI k)), (3, .int v61)]) dX10_feed_61 rfl (by rw [ev61]; rfl) (by decide) rfl ?_
    refine x_goto (pc := 64) (tgt := 31) dX10_feed_64 (by decide) ?_
    subst ev61
    rw [dec_eq]
    refine ih (i + 1) (by omega) _ ⟨up2_s, fun j hj9 => ?_⟩ (fun a p1 p2 => (up2_row p1).trans ((up2_row p2).trans (gj a p1 p2))) (fun q p => (up2_k p).trans ((congrFun (up2_row (by omega)) q).trans (hj q p)))
    rw [up2_row (show M + 7 ≠ M by omega)]
    rcases Nat.lt_succ_iff_lt_or_eq.mp (show j < t.1 + i + 1 from hj9) with e | e
    · rw [up2_k (by omega)]
      exact (fj.2 j e).trans (congrArg sx (fdF_o e).symm)
    · rw [e, up2_s]
      exact congrArg sx ((fdF_s (f := t.2) (m := t.1) (k := i) (n := k) (x := x)).trans (congrArg (byt x) (show k - 1 - i = w by omega))).symm

set_option maxHeartbeats 4000000 in
set_option maxRecDepth 100000 in
theorem m_feedIt {T : xT} {n : Nat} {sh : Nat → Nat × Nat} {I : xI} {R : xR} {L : xL} {P : xPost} {M : Nat} (hM : xModel sh R M) {t : xX} (ht : mTxt I M t) (h100 : t.1 ≤ 100) {x y : Int32} (K : ∀ I2 : xI, mTxt I2 M (spFeed t x y).2 → (∀ a, a ≠ M → a ≠ M + 7 → I2 a = I a) → (∀ k, k ≠ 12 → I2 M k = I M k) → P (n, sh, 0, 0) I2 R L (some (.int (spFeed t x y).1)))  : XM T zX10_feed 1 [.ref M, .int x, .int y] n sh I R L P := by
  refine x_aload_n (pc := 0) dX10_feed_0 rfl rfl ?_
  refine x_iload_n (pc := 1) dX10_feed_1 rfl rfl ?_
  refine x_iconst (pc := 2) (v := 0) dX10_feed_2 (by decide) ?_
  refine x_iconst (pc := 3) (v := 4) dX10_feed_3 (by decide) ?_
  refine x_callV (pc := 4) (As := [.int _, .int _, .int _]) dX10_feed_4 km_X10_in kv_X10_in kl_RX10_231 hM.s rfl rfl (by decide) ⟨Nat.le_refl _, Nat.le_refl _⟩ rfl (Nat.le_of_ble_eq_true rfl) (Nat.le_of_ble_eq_true rfl) (m_in hM.s (fun p1 p2 => ⟨rfl, rfl, ?_⟩) (fun g1 => ⟨rfl, rfl, ?_⟩))
  · skip
    obtain ⟨k, hk, ek⟩ := s5_k p1 p2
    subst ek
    refine x_if_ne_t (pc := 7) (tgt := 13) dX10_feed_7 (by decide) (by decide) ?_
    refine x_aload_n (pc := 13) dX10_feed_13 rfl rfl ?_
    refine x_get (pc := 14) dX10_feed_14 kf_RX10_47 hM.s rfl ?_
    rw [ht.1]
    refine x_iload_n (pc := 17) dX10_feed_17 rfl rfl ?_
    refine x_iaddn (pc := 18) (a := t.1) (b := k) dX10_feed_18 ?_
    refine x_bipush (pc := 19) (v := 100) dX10_feed_19 (by decide) ?_
    refine x_icmpn_le (pc := 21) (tgt := 27) (a := (t.1 + k)) (b := 100) dX10_feed_21 (by decide) (by omega) (by decide) (fun c21 => ?_) (fun c21 => ?_)
    · skip
      refine x_iload_n (pc := 27) dX10_feed_27 rfl rfl ?_
      refine x_iconst (pc := 28) (v := 1) dX10_feed_28 (by decide) ?_
      refine x_isub (pc := 29) dX10_feed_29 ?_
      refine x_topi (fun v30 ev30 => ?_)
      refine x_istore_n (pc := 30) (lv' := [(0, .ref M), (1, .int x), (2, .int (nI k)), (3, .int v30)]) dX10_feed_30 rfl (by decide) rfl ?_
      subst ev30
      have e9 := spFeed_s (t := t) (x := x) hk (by omega)
      exact lm_feed hM ht h100 hk (by omega) (fun I2 q1 q2 q3 => by have h9 := K I2 (by rw [e9]; exact q1) q2 q3; rw [e9] at h9; exact h9) k 0 (by omega) I ⟨ht.1, fun i hi => (ht.2 i hi).trans (congrArg sx (congrFun fdF_0.symm i))⟩ (fun _ _ _ => rfl) (fun _ _ => rfl)
    · skip
      refine x_bipush (pc := 24) (v := -4) dX10_feed_24 (by decide) ?_
      refine x_ireturn (pc := 26) dX10_feed_26 ⟨_, rfl, rfl⟩ ⟨Nat.le_refl _, Nat.le_refl _⟩ ?_
      have h9 := K I (by rw [spFeed_f hk (by omega)]; exact ht) (fun _ _ _ => rfl) (fun _ _ => rfl)
      rw [spFeed_f hk (by omega)] at h9
      exact h9
  · skip
    refine x_if_ne_f (pc := 7) (tgt := 13) dX10_feed_7 (by decide) (by decide) ?_
    refine x_bipush (pc := 10) (v := -2) dX10_feed_10 (by decide) ?_
    refine x_ireturn (pc := 12) dX10_feed_12 ⟨_, rfl, rfl⟩ ⟨Nat.le_refl _, Nat.le_refl _⟩ ?_
    have h9 := K I (by rw [spFeed_b g1]; exact ht) (fun _ _ _ => rfl) (fun _ _ => rfl)
    rw [spFeed_b g1] at h9
    exact h9

