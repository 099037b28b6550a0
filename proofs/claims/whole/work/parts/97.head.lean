/-! ===== the text: the reference reads a word, the head of a clause ===== -/
def wfr (i : Nat) : Nat := [9, 5, 0].getD i 0
def LWD (I : xI) (M : Nat) : Prop := ∀ i k, i < 3 → k + 1 < wlen i → I (M + 15) (wfr i + k) = nI (wdC i k)
theorem LWD.keep {I J : xI} {M : Nat} (h : LWD I M) (f : J (M + 15) = I (M + 15)) : LWD J M := fun i k hi hk => (congrFun f _).trans (h i k hi hk)
theorem wfr_lt : ∀ i, i < 3 → wfr i + wlen i ≤ 14 := by decide
theorem wd_32 : ∀ i, i < 3 → wdC i (wlen i - 1) = 32 := by decide
theorem wlen_2 : ∀ i, i < 3 → 2 ≤ wlen i := by decide
theorem wdI_t {nx : Nat → Nat} {p i w k : Nat} (h : nx (p + k) = wdC i k) : wdI nx p i (w + 1) k = wdI nx p i w (k + 1) := if_pos h
theorem wdI_f {nx : Nat → Nat} {p i w k : Nat} (h : ¬ nx (p + k) = wdC i k) : wdI nx p i (w + 1) k = (p + k, false) := if_neg h

set_option maxHeartbeats 4000000 in
set_option maxRecDepth 100000 in
theorem lm_word {T : xT} {n : Nat} {sh : Nat → Nat × Nat} {I : xI} {R : xR} {L : xL} {P : xPost} {M : Nat} (hM : xModel sh R M) {t : xX} (hx : XOK t) (ht : mTxt I M t) (hl : LWD I M) {p i : Nat} (hi : i < 3) (K1 : ∀ J : xI, (wdF (nxX t) p i).2 = true → (wdF (nxX t) p i).1 ≤ t.1 → J M 13 = nI (wdF (nxX t) p i).1 → mdR M I J → P (n, sh, 0, 0) J R L (some (.int 1))) (K0 : ∀ J : xI, (wdF (nxX t) p i).2 = false → (wdF (nxX t) p i).1 ≤ t.1 → J M 13 = nI (wdF (nxX t) p i).1 → mdR M I J → P (n, sh, 0, 0) J R L (some (.int 0))) : ∀ (w k : Nat), k + w + 1 = wlen i → ∀ J : xI, J M 13 = nI (p + k) → p + k ≤ t.1 → wdI (nxX t) p i (w + 1) k = wdF (nxX t) p i → mdR M I J → X T zX10_takesWord 2 0 0 P 2 [(0, .ref M), (1, .int (nI (wfr i))), (2, .int (nI (wlen i - 1))), (3, .int (nI k))] [] (n, sh, 0, 0) J R L := by
  have x100 := hx.1
  have h7 := wlen_lt i hi
  have h14 := wfr_lt i hi
  intro w
  induction w with
  | zero =>
    intro k hw J hj hp2 he fj
    have hk9 : k = wlen i - 1 := by omega
    refine x_iload_n (pc := 2) dX10_takesWord_2 rfl rfl ?_
    refine x_iload_n (pc := 3) dX10_takesWord_3 rfl rfl ?_
    refine x_icmpn_ge_t (pc := 4) (tgt := 30) (a := k) (b := (wlen i - 1)) dX10_takesWord_4 (by decide) (by omega) (by omega) (by omega) ?_
    refine x_aload_n (pc := 30) dX10_takesWord_30 rfl rfl ?_
    refine x_bipush (pc := 31) (v := 32) dX10_takesWord_31 (by decide) ?_
    refine x_callV (pc := 33) (As := [.int _]) dX10_takesWord_33 km_X10_takes kv_X10_takes kl_RX10_253 hM.s rfl rfl (by decide) ⟨Nat.le_refl _, Nat.le_refl _⟩ rfl (Nat.le_of_ble_eq_true rfl) (Nat.le_of_ble_eq_true rfl) (m_takes (c := 32) hM hx (ht.keepR fj) hj hp2 (by decide) (fun h1 hl1 => ⟨rfl, rfl, ?_⟩) (fun h1 => ⟨rfl, rfl, ?_⟩))
    · skip
      refine x_ireturn (pc := 36) dX10_takesWord_36 ⟨_, rfl, by decide⟩ ⟨Nat.le_refl _, Nat.le_refl _⟩ ?_
      have e9 : wdF (nxX t) p i = (p + k + 1, true) := by
        rw [← he, wdI_t (by rw [hk9, wd_32 i hi]; rw [hk9] at h1; exact h1)]
        show (p + (k + 1), true) = _
        rw [← Nat.add_assoc]
      have h9 := K1 (up2 J M 13 (nI (p + k + 1)))
      rw [e9] at h9
      exact h9 rfl (by show p + k + 1 ≤ t.1; omega) up2_s (fj.tr mdR.p)
    · skip
      refine x_ireturn (pc := 36) dX10_takesWord_36 ⟨_, rfl, by decide⟩ ⟨Nat.le_refl _, Nat.le_refl _⟩ ?_
      have e9 : wdF (nxX t) p i = (p + k, false) := by
        rw [← he, wdI_f (by rw [hk9, wd_32 i hi]; rw [hk9] at h1; exact h1)]
      have h9 := K0 J
      rw [e9] at h9
      exact h9 rfl hp2 hj fj
  | succ w ih =>
    intro k hw J hj hp2 he fj
    refine x_iload_n (pc := 2) dX10_takesWord_2 rfl rfl ?_
    refine x_iload_n (pc := 3) dX10_takesWord_3 rfl rfl ?_
    refine x_icmpn_ge_f (pc := 4) (tgt := 30) (a := k) (b := (wlen i - 1)) dX10_takesWord_4 (by decide) (by omega) (by omega) (by omega) ?_
    refine x_aload_n (pc := 7) dX10_takesWord_7 rfl rfl ?_
    refine x_aload_n (pc := 8) dX10_takesWord_8 rfl rfl ?_
    refine x_getr (pc := 9) dX10_takesWord_9 kf_RX10_89 hM.s rfl hM.f14 ?_
    refine x_iload_n (pc := 12) dX10_takesWord_12 rfl rfl ?_
    refine x_iload_n (pc := 13) dX10_takesWord_13 rfl rfl ?_
    refine x_iaddn (pc := 14) (a := (wfr i)) (b := k) dX10_takesWord_14 ?_
    refine x_ialdn (pc := 15) (a := ((wfr i) + k)) dX10_takesWord_15 hM.s14 (by omega) (by omega) ?_
    rw [show J (M + 15) (wfr i + k) = nI (wdC i k) from (congrFun (fj.1 (M + 15) (by omega)) _).trans (hl i k hi (by omega))]
    refine x_callV (pc := 16) (As := [.int _]) dX10_takesWord_16 km_X10_takes kv_X10_takes kl_RX10_253 hM.s rfl rfl (by decide) ⟨Nat.le_refl _, Nat.le_refl _⟩ rfl (Nat.le_of_ble_eq_true rfl) (Nat.le_of_ble_eq_true rfl) (m_takes (c := wdC i k) hM hx (ht.keepR fj) hj hp2 (wd_lt i hi k (by omega)) (fun h1 hl1 => ⟨rfl, rfl, ?_⟩) (fun h1 => ⟨rfl, rfl, ?_⟩))
    · skip
      refine x_if_ne_t (pc := 19) (tgt := 24) dX10_takesWord_19 (by decide) (by decide) ?_
      refine x_iinc (pc := 24) (v := nI (k + 1)) (lv' := [(0, .ref M), (1, .int (nI (wfr i))), (2, .int (nI (wlen i - 1))), (3, .int (nI (k + 1)))]) dX10_takesWord_24 rfl (nI_1 _) (by decide) rfl ?_
      refine x_goto (pc := 27) (tgt := 2) dX10_takesWord_27 (by decide) ?_
      exact ih (k + 1) (by omega) _ up2_s (by show p + k + 1 ≤ t.1; omega) ((wdI_t h1).symm.trans he) (fj.tr mdR.p)
    · skip
      refine x_if_ne_f (pc := 19) (tgt := 24) dX10_takesWord_19 (by decide) (by decide) ?_
      refine x_iconst (pc := 22) (v := 0) dX10_takesWord_22 (by decide) ?_
      refine x_ireturn (pc := 23) dX10_takesWord_23 ⟨_, rfl, by decide⟩ ⟨Nat.le_refl _, Nat.le_refl _⟩ ?_
      have e9 : wdF (nxX t) p i = (p + k, false) := by
        rw [← he, wdI_f h1]
      have h9 := K0 J
      rw [e9] at h9
      exact h9 rfl hp2 hj fj

set_option maxHeartbeats 4000000 in
set_option maxRecDepth 100000 in
theorem m_takesWord {T : xT} {n : Nat} {sh : Nat → Nat × Nat} {I : xI} {R : xR} {L : xL} {P : xPost} {M : Nat} (hM : xModel sh R M) {t : xX} (hx : XOK t) (ht : mTxt I M t) (hl : LWD I M) {p i : Nat} (hi : i < 3) (hp : I M 13 = nI p) (hp2 : p ≤ t.1) (K1 : ∀ J : xI, (wdF (nxX t) p i).2 = true → (wdF (nxX t) p i).1 ≤ t.1 → J M 13 = nI (wdF (nxX t) p i).1 → mdR M I J → P (n, sh, 0, 0) J R L (some (.int 1))) (K0 : ∀ J : xI, (wdF (nxX t) p i).2 = false → (wdF (nxX t) p i).1 ≤ t.1 → J M 13 = nI (wdF (nxX t) p i).1 → mdR M I J → P (n, sh, 0, 0) J R L (some (.int 0)))  : XM T zX10_takesWord 2 [.ref M, .int (nI (wfr i)), .int (nI (wlen i - 1))] n sh I R L P := by
  have h2 := wlen_2 i hi
  refine x_iconst (pc := 0) (v := 0) dX10_takesWord_0 (by decide) ?_
  refine x_istore_n (pc := 1) (lv' := [(0, .ref M), (1, .int (nI (wfr i))), (2, .int (nI (wlen i - 1))), (3, .int 0)]) dX10_takesWord_1 rfl (by decide) rfl ?_
  refine lm_word hM hx ht hl hi K1 K0 (wlen i - 1) 0 (by omega) I hp hp2 ?_ mdR.rf
  show wdI (nxX t) p i (wlen i - 1 + 1) 0 = wdI (nxX t) p i (wlen i) 0
  rw [show wlen i - 1 + 1 = wlen i by omega]

theorem wd_first {nx : Nat → Nat} {p i : Nat} (hi : i < 3) (h : nx p ≠ wdC i 0) : wdF nx p i = (p, false) := by
  obtain ⟨m, hm⟩ : ∃ m, wlen i = m + 1 := ⟨wlen i - 1, by have := wlen_2 i hi; omega⟩
  unfold wdF
  rw [hm]
  exact wdI_f (k := 0) h
theorem wd_head {nx : Nat → Nat} {p : Nat} (h1 : nx p ≠ 99) (h2 : nx p ≠ 121) : wdF nx p (clWd (nx p)) = wdF nx p 0 := by
  by_cases z : nx p = 108
  · rw [z]
    rfl
  · have e : clWd (nx p) = 2 := by
      unfold clWd
      rw [if_neg z, if_neg h1]
    rw [e, wd_first (i := 2) (by decide) h2, wd_first (i := 0) (by decide) z]
theorem wd_head0 {nx : Nat → Nat} {p : Nat} (h : (wdF nx p 0).2 = true) : clWd (nx p) = 0 := by
  by_cases z : nx p = 108
  · rw [z]
    rfl
  · rw [wd_first (i := 0) (by decide) z] at h
    cases h
def mdH (M c : Nat) (I J : xI) : Prop := (∀ a, a ≠ M → a ≠ M + 9 → J a = I a) ∧ (∀ k, k ≠ 13 → k ≠ 14 → J M k = I M k) ∧ ∀ i, i ≠ c → J (M + 9) i = I (M + 9) i
theorem mTxt.keepH {M c : Nat} {I J : xI} {t : xX} (h : mTxt I M t) (f : mdH M c I J) : mTxt J M t := ⟨(f.2.1 12 (by decide) (by decide)).trans h.1, fun i hi => (congrFun (f.1 (M + 7) (by omega) (by omega)) i).trans (h.2 i hi)⟩
theorem mdH.w {M c : Nat} {x : Int32} {I : xI} : mdH M c I (up2 I (M + 9) c x) := ⟨fun a _ p => up2_row p, fun j _ _ => congrFun (up2_row (by omega)) j, fun i p => up2_k p⟩
theorem mdR.h {M c : Nat} {I J : xI} (h : mdR M I J) : mdH M c I J := ⟨fun a p _ => h.1 a p, h.2, fun i _ => congrFun (h.1 (M + 9) (by omega)) i⟩
theorem mdH.tr {M c : Nat} {I J J' : xI} (h : mdH M c I J) (h' : mdH M c J J') : mdH M c I J' := ⟨fun a p q => (h'.1 a p q).trans (h.1 a p q), fun k p q => (h'.2.1 k p q).trans (h.2.1 k p q), fun i p => (h'.2.2 i p).trans (h.2.2 i p)⟩

set_option maxHeartbeats 4000000 in
set_option maxRecDepth 100000 in
theorem m_takesHead {T : xT} {n : Nat} {sh : Nat → Nat × Nat} {I : xI} {R : xR} {L : xL} {P : xPost} {M : Nat} (hM : xModel sh R M) {t : xX} (hx : XOK t) (ht : mTxt I M t) (hl : LWD I M) {p c : Nat} (hc : c < 48) (hp : I M 13 = nI p) (hp2 : p ≤ t.1) (K1 : ∀ J : xI, (wdF (nxX t) p (clWd (nxX t p))).2 = true → (wdF (nxX t) p (clWd (nxX t p))).1 ≤ t.1 → J M 13 = nI (wdF (nxX t) p (clWd (nxX t p))).1 → J (M + 9) c = nI (2 - clWd (nxX t p)) → mdH M c I J → P (n, sh, 0, 0) J R L (some (.int 1))) (K0 : ∀ J : xI, (wdF (nxX t) p (clWd (nxX t p))).2 = false → (wdF (nxX t) p (clWd (nxX t p))).1 ≤ t.1 → J M 13 = nI (wdF (nxX t) p (clWd (nxX t p))).1 → mdH M c I J → P (n, sh, 0, 0) J R L (some (.int 0)))  : XM T zX10_takesHead 3 [.ref M, .int (nI c)] n sh I R L P := by
  refine x_aload_n (pc := 0) dX10_takesHead_0 rfl rfl ?_
  refine x_callV (pc := 1) (As := []) dX10_takesHead_1 km_X10_next kv_X10_next kl_RX10_249 hM.s rfl rfl (by decide) ⟨Nat.le_refl _, Nat.le_refl _⟩ rfl (Nat.le_of_ble_eq_true rfl) (Nat.le_of_ble_eq_true rfl) (m_next hM hx ht hp hp2 (⟨rfl, rfl, ?_⟩))
  refine x_lsw (pc := 4) (dt := 60) [(99, 46), (121, 32)] dX10_takesHead_4 (by decide +kernel) (by decide +kernel) (by decide) ?_
  refine xsw_c (fun c4 => ?_) (fun n4_99 => ?_)
  · skip
    refine x_aload_n (pc := 46) dX10_takesHead_46 rfl rfl ?_
    refine x_getr (pc := 47) dX10_takesHead_47 kf_RX10_62 hM.s rfl hM.f8 ?_
    refine x_iload_n (pc := 50) dX10_takesHead_50 rfl rfl ?_
    refine x_iconst (pc := 51) (v := 1) dX10_takesHead_51 (by decide) ?_
    refine x_iastn (pc := 52) (a := c) dX10_takesHead_52 hM.s8 (by omega) (by omega) ?_
    refine x_aload_n (pc := 53) dX10_takesHead_53 rfl rfl ?_
    refine x_iconst (pc := 54) (v := 5) dX10_takesHead_54 (by decide) ?_
    refine x_iconst (pc := 55) (v := 4) dX10_takesHead_55 (by decide) ?_
    refine x_callV (pc := 56) (As := [.int _, .int _]) dX10_takesHead_56 km_X10_takesWord kv_X10_takesWord kl_RX10_279 hM.s rfl rfl (by decide) ⟨Nat.le_refl _, Nat.le_refl _⟩ rfl (Nat.le_of_ble_eq_true rfl) (Nat.le_of_ble_eq_true rfl) (m_takesWord (i := 1) hM hx (mTxt.keepH ht (mdH.w (c := c) (x := 1))) (hl.keep (up2_row (show M + 15 ≠ M + 9 by omega))) (by decide) ((congrFun (up2_row (show M ≠ M + 9 by omega)) 13).trans hp) hp2 (fun J1 h1 h2 h3 f1 => ⟨rfl, rfl, ?_⟩) (fun J1 h1 h2 h3 f1 => ⟨rfl, rfl, ?_⟩))
    · skip
      refine x_ireturn (pc := 59) dX10_takesHead_59 ⟨_, rfl, by decide⟩ ⟨Nat.le_refl _, Nat.le_refl _⟩ ?_
      have ez : nxX t p = 99 := (nM_eq (nxX_257 hx p) (show 99 < 128 by decide)).mp c4
      have ew : clWd (nxX t p) = 1 := by rw [ez]; rfl
      have h9 := K1 J1
      rw [ew] at h9
      exact h9 h1 h2 h3 ((congrFun (f1.1 (M + 9) (by omega)) c).trans up2_s) (mdH.w.tr f1.h)
    · skip
      refine x_ireturn (pc := 59) dX10_takesHead_59 ⟨_, rfl, by decide⟩ ⟨Nat.le_refl _, Nat.le_refl _⟩ ?_
      have ez : nxX t p = 99 := (nM_eq (nxX_257 hx p) (show 99 < 128 by decide)).mp c4
      have ew : clWd (nxX t p) = 1 := by rw [ez]; rfl
      have h9 := K0 J1
      rw [ew] at h9
      exact h9 h1 h2 h3 (mdH.w.tr f1.h)
  refine xsw_c (fun c4 => ?_) (fun n4_121 => ?_)
  · skip
    refine x_aload_n (pc := 32) dX10_takesHead_32 rfl rfl ?_
    refine x_getr (pc := 33) dX10_takesHead_33 kf_RX10_62 hM.s rfl hM.f8 ?_
    refine x_iload_n (pc := 36) dX10_takesHead_36 rfl rfl ?_
    refine x_iconst (pc := 37) (v := 0) dX10_takesHead_37 (by decide) ?_
    refine x_iastn (pc := 38) (a := c) dX10_takesHead_38 hM.s8 (by omega) (by omega) ?_
    refine x_aload_n (pc := 39) dX10_takesHead_39 rfl rfl ?_
    refine x_iconst (pc := 40) (v := 0) dX10_takesHead_40 (by decide) ?_
    refine x_iconst (pc := 41) (v := 5) dX10_takesHead_41 (by decide) ?_
    refine x_callV (pc := 42) (As := [.int _, .int _]) dX10_takesHead_42 km_X10_takesWord kv_X10_takesWord kl_RX10_279 hM.s rfl rfl (by decide) ⟨Nat.le_refl _, Nat.le_refl _⟩ rfl (Nat.le_of_ble_eq_true rfl) (Nat.le_of_ble_eq_true rfl) (m_takesWord (i := 2) hM hx (mTxt.keepH ht (mdH.w (c := c) (x := 0))) (hl.keep (up2_row (show M + 15 ≠ M + 9 by omega))) (by decide) ((congrFun (up2_row (show M ≠ M + 9 by omega)) 13).trans hp) hp2 (fun J1 h1 h2 h3 f1 => ⟨rfl, rfl, ?_⟩) (fun J1 h1 h2 h3 f1 => ⟨rfl, rfl, ?_⟩))
    · skip
      refine x_ireturn (pc := 45) dX10_takesHead_45 ⟨_, rfl, by decide⟩ ⟨Nat.le_refl _, Nat.le_refl _⟩ ?_
      have ez : nxX t p = 121 := (nM_eq (nxX_257 hx p) (show 121 < 128 by decide)).mp c4
      have ew : clWd (nxX t p) = 2 := by rw [ez]; rfl
      have h9 := K1 J1
      rw [ew] at h9
      exact h9 h1 h2 h3 ((congrFun (f1.1 (M + 9) (by omega)) c).trans up2_s) (mdH.w.tr f1.h)
    · skip
      refine x_ireturn (pc := 45) dX10_takesHead_45 ⟨_, rfl, by decide⟩ ⟨Nat.le_refl _, Nat.le_refl _⟩ ?_
      have ez : nxX t p = 121 := (nM_eq (nxX_257 hx p) (show 121 < 128 by decide)).mp c4
      have ew : clWd (nxX t p) = 2 := by rw [ez]; rfl
      have h9 := K0 J1
      rw [ew] at h9
      exact h9 h1 h2 h3 (mdH.w.tr f1.h)
  refine xsw_n ?_
  refine x_aload_n (pc := 60) dX10_takesHead_60 rfl rfl ?_
  refine x_getr (pc := 61) dX10_takesHead_61 kf_RX10_62 hM.s rfl hM.f8 ?_
  refine x_iload_n (pc := 64) dX10_takesHead_64 rfl rfl ?_
  refine x_iconst (pc := 65) (v := 2) dX10_takesHead_65 (by decide) ?_
  refine x_iastn (pc := 66) (a := c) dX10_takesHead_66 hM.s8 (by omega) (by omega) ?_
  refine x_aload_n (pc := 67) dX10_takesHead_67 rfl rfl ?_
  refine x_bipush (pc := 68) (v := 9) dX10_takesHead_68 (by decide) ?_
  refine x_iconst (pc := 70) (v := 4) dX10_takesHead_70 (by decide) ?_
  refine x_callV (pc := 71) (As := [.int _, .int _]) dX10_takesHead_71 km_X10_takesWord kv_X10_takesWord kl_RX10_279 hM.s rfl rfl (by decide) ⟨Nat.le_refl _, Nat.le_refl _⟩ rfl (Nat.le_of_ble_eq_true rfl) (Nat.le_of_ble_eq_true rfl) (m_takesWord (i := 0) hM hx (mTxt.keepH ht (mdH.w (c := c) (x := 2))) (hl.keep (up2_row (show M + 15 ≠ M + 9 by omega))) (by decide) ((congrFun (up2_row (show M ≠ M + 9 by omega)) 13).trans hp) hp2 (fun J1 h1 h2 h3 f1 => ⟨rfl, rfl, ?_⟩) (fun J1 h1 h2 h3 f1 => ⟨rfl, rfl, ?_⟩))
  · skip
    refine x_ireturn (pc := 74) dX10_takesHead_74 ⟨_, rfl, by decide⟩ ⟨Nat.le_refl _, Nat.le_refl _⟩ ?_
    have z1 : nxX t p ≠ 99 := fun z => n4_99 ((nM_eq (nxX_257 hx p) (show 99 < 128 by decide)).mpr z)
    have z2 : nxX t p ≠ 121 := fun z => n4_121 ((nM_eq (nxX_257 hx p) (show 121 < 128 by decide)).mpr z)
    have ew := wd_head (nx := nxX t) z1 z2
    have h9 := K1 J1
    rw [ew, wd_head0 h1] at h9
    exact h9 h1 h2 h3 ((congrFun (f1.1 (M + 9) (by omega)) c).trans up2_s) (mdH.w.tr f1.h)
  · skip
    refine x_ireturn (pc := 74) dX10_takesHead_74 ⟨_, rfl, by decide⟩ ⟨Nat.le_refl _, Nat.le_refl _⟩ ?_
    have z1 : nxX t p ≠ 99 := fun z => n4_99 ((nM_eq (nxX_257 hx p) (show 99 < 128 by decide)).mpr z)
    have z2 : nxX t p ≠ 121 := fun z => n4_121 ((nM_eq (nxX_257 hx p) (show 121 < 128 by decide)).mpr z)
    have ew := wd_head (nx := nxX t) z1 z2
    have h9 := K0 J1
    rw [ew] at h9
    exact h9 h1 h2 h3 (mdH.w.tr f1.h)

