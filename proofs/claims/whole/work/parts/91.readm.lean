/-! ===== the text: the reference's small methods ===== -/
/-- what the reference sees of a byte -/
def nM (c : Nat) : Int32 := if c < 256 then sx c else -1
theorem nM_eq {a c : Nat} (ha : a < 257) (hc : c < 128) : nM a = nI c ↔ a = c := by
  have h : ∀ a, a < 257 → (nM a).toInt = (if a < 128 then (a : Int) else if a < 256 then (a : Int) - 256 else -1) := by decide +kernel
  constructor
  · intro q
    have q1 := congrArg Int32.toInt q
    rw [h a ha, nI_toInt (by omega)] at q1
    split at q1
    · omega
    · split at q1 <;> omega
  · intro q
    subst q
    apply Int32.toInt.inj
    rw [h a ha, nI_toInt (by omega), if_pos hc]
theorem nM_dg {a : Nat} (ha : a < 257) : (nM a < 48 ∨ 57 < nM a) ↔ ¬ isDg a := by
  have : ∀ a, a < 257 → ((nM a < 48 ∨ 57 < nM a) ↔ ¬ (48 ≤ a ∧ a ≤ 57)) := by decide +kernel
  exact this a ha
theorem nM_sg {a : Nat} (ha : a < 257) : (nM a < 60 ∨ 62 < nM a) ↔ ¬ isSg a := by
  have : ∀ a, a < 257 → ((nM a < 60 ∨ 62 < nM a) ↔ ¬ (60 ≤ a ∧ a ≤ 62)) := by decide +kernel
  exact this a ha
theorem nM_v {d a : Nat} (hd : d < 10) (ha : isDg a) : nI (10 * d) + nM a - 48 = nI (10 * d + (a - 48)) := by
  have : ∀ d, d < 10 → ∀ a, a < 58 → (48 ≤ a → nI (10 * d) + nM a - 48 = nI (10 * d + (a - 48))) := by decide +kernel
  have h2 : 48 ≤ a ∧ a ≤ 57 := ha
  exact this d hd a (by omega) h2.1
theorem nM_lit {a : Nat} (h : a < 128) : nM a = nI a := (nM_eq (by omega) h).mpr rfl
def mdR (M : Nat) (I J : xI) : Prop := (∀ a, a ≠ M → J a = I a) ∧ ∀ k, k ≠ 13 → k ≠ 14 → J M k = I M k
theorem mdR.rf {M : Nat} {I : xI} : mdR M I I := ⟨fun _ _ => rfl, fun _ _ _ => rfl⟩
theorem mdR.tr {M : Nat} {I J J' : xI} (h : mdR M I J) (h' : mdR M J J') : mdR M I J' := ⟨fun a p => (h'.1 a p).trans (h.1 a p), fun k p q => (h'.2 k p q).trans (h.2 k p q)⟩
theorem mdR.p {M : Nat} {I : xI} {x : Int32} : mdR M I (up2 I M 13 x) := ⟨fun a p => up2_row p, fun k p _ => up2_k p⟩
theorem mdR.d {M : Nat} {I : xI} {x : Int32} : mdR M I (up2 I M 14 x) := ⟨fun a p => up2_row p, fun k _ p => up2_k p⟩
theorem mTxt.keepR {M : Nat} {I J : xI} {t : xX} (h : mTxt I M t) (f : mdR M I J) : mTxt J M t := ⟨(f.2 12 (by decide) (by decide)).trans h.1, fun i hi => (congrFun (f.1 (M + 7) (by omega)) i).trans (h.2 i hi)⟩

set_option maxHeartbeats 4000000 in
set_option maxRecDepth 100000 in
theorem m_next {T : xT} {n : Nat} {sh : Nat → Nat × Nat} {I : xI} {R : xR} {L : xL} {P : xPost} {M : Nat} (hM : xModel sh R M) {t : xX} (hx : XOK t) (ht : mTxt I M t) {p : Nat} (hp : I M 13 = nI p) (hp2 : p ≤ t.1) (K : P (n, sh, 0, 0) I R L (some (.int (nM (nxX t p))))) : XM T zX10_next 0 [.ref M] n sh I R L P := by
  have x100 := hx.1
  refine x_aload_n (pc := 0) dX10_next_0 rfl rfl ?_
  refine x_get (pc := 1) dX10_next_1 kf_RX10_50 hM.s rfl ?_
  rw [hp]
  refine x_aload_n (pc := 4) dX10_next_4 rfl rfl ?_
  refine x_get (pc := 5) dX10_next_5 kf_RX10_47 hM.s rfl ?_
  rw [ht.1]
  refine x_icmpn_ge (pc := 8) (tgt := 23) (a := p) (b := t.1) dX10_next_8 (by decide) (by omega) (by omega) (fun c8 => ?_) (fun c8 => ?_)
  · skip
    refine x_iconst (pc := 23) (v := -1) dX10_next_23 (by decide) ?_
    refine x_ireturn (pc := 24) dX10_next_24 ⟨_, rfl, rfl⟩ ⟨Nat.le_refl _, Nat.le_refl _⟩ ?_
    first
    | exact xvi K (by rw [ht.2 p (by omega)]; unfold nM nxX; rw [if_pos (show p < t.1 by omega), if_pos (hx.2 p (by omega))])
    | exact xvi K (by unfold nM nxX; rw [if_neg (show ¬ p < t.1 by omega), if_neg (by decide)])
  · skip
    refine x_aload_n (pc := 11) dX10_next_11 rfl rfl ?_
    refine x_getr (pc := 12) dX10_next_12 kf_RX10_56 hM.s rfl hM.f6 ?_
    refine x_aload_n (pc := 15) dX10_next_15 rfl rfl ?_
    refine x_get (pc := 16) dX10_next_16 kf_RX10_50 hM.s rfl ?_
    rw [hp]
    refine x_ialdn (pc := 19) (a := p) dX10_next_19 hM.s6 (by omega) (by omega) ?_
    refine x_goto (pc := 20) (tgt := 24) dX10_next_20 (by decide) ?_
    refine x_ireturn (pc := 24) dX10_next_24 ⟨_, rfl, rfl⟩ ⟨Nat.le_refl _, Nat.le_refl _⟩ ?_
    first
    | exact xvi K (by rw [ht.2 p (by omega)]; unfold nM nxX; rw [if_pos (show p < t.1 by omega), if_pos (hx.2 p (by omega))])
    | exact xvi K (by unfold nM nxX; rw [if_neg (show ¬ p < t.1 by omega), if_neg (by decide)])

set_option maxHeartbeats 4000000 in
set_option maxRecDepth 100000 in
theorem m_takes {T : xT} {n : Nat} {sh : Nat → Nat × Nat} {I : xI} {R : xR} {L : xL} {P : xPost} {M : Nat} (hM : xModel sh R M) {t : xX} (hx : XOK t) (ht : mTxt I M t) {p : Nat} (hp : I M 13 = nI p) (hp2 : p ≤ t.1) {c : Nat} (hc : c < 128) (K1 : nxX t p = c → p < t.1 → P (n, sh, 0, 0) (up2 I M 13 (nI (p + 1))) R L (some (.int 1))) (K0 : ¬ nxX t p = c → P (n, sh, 0, 0) I R L (some (.int 0))) : XM T zX10_takes 1 [.ref M, .int (nI c)] n sh I R L P := by
  have x100 := hx.1
  refine x_aload_n (pc := 0) dX10_takes_0 rfl rfl ?_
  refine x_callV (pc := 1) (As := []) dX10_takes_1 km_X10_next kv_X10_next kl_RX10_249 hM.s rfl rfl (by decide) ⟨Nat.le_refl _, Nat.le_refl _⟩ rfl (Nat.le_of_ble_eq_true rfl) (Nat.le_of_ble_eq_true rfl) (m_next hM hx ht hp hp2 (⟨rfl, rfl, ?_⟩))
  refine x_iload_n (pc := 4) dX10_takes_4 rfl rfl ?_
  refine x_icmp_eq (pc := 5) (tgt := 10) dX10_takes_5 (by decide) (fun c5 => ?_) (fun c5 => ?_)
  · skip
    refine x_aload_n (pc := 10) dX10_takes_10 rfl rfl ?_
    refine x_dup (pc := 11) dX10_takes_11 rfl ?_
    refine x_get (pc := 12) dX10_takes_12 kf_RX10_50 hM.s rfl ?_
    rw [hp]
    refine x_iconst (pc := 15) (v := 1) dX10_takes_15 (by decide) ?_
    refine x_iaddn (pc := 16) (a := p) (b := 1) dX10_takes_16 ?_
    refine x_put (pc := 17) dX10_takes_17 kf_RX10_50 hM.s rfl (Or.inl kb_10_13) ?_
    refine x_iconst (pc := 20) (v := 1) dX10_takes_20 (by decide) ?_
    refine x_ireturn (pc := 21) dX10_takes_21 ⟨_, rfl, by decide⟩ ⟨Nat.le_refl _, Nat.le_refl _⟩ ?_
    exact K1 ((nM_eq (nxX_257 hx p) hc).mp c5) (nxX_lt ((nM_eq (nxX_257 hx p) hc).mp c5) (by omega))
  · skip
    refine x_iconst (pc := 8) (v := 0) dX10_takes_8 (by decide) ?_
    refine x_ireturn (pc := 9) dX10_takes_9 ⟨_, rfl, by decide⟩ ⟨Nat.le_refl _, Nat.le_refl _⟩ ?_
    exact K0 (fun q => c5 ((nM_eq (nxX_257 hx p) hc).mpr q))

set_option maxHeartbeats 4000000 in
set_option maxRecDepth 100000 in
theorem m_isDigit {T : xT} {n : Nat} {sh : Nat → Nat × Nat} {I : xI} {R : xR} {L : xL} {P : xPost} {M : Nat} (hM : xModel sh R M) {t : xX} (hx : XOK t) (ht : mTxt I M t) {p : Nat} (hp : I M 13 = nI p) (hp2 : p ≤ t.1) (K1 : isDg (nxX t p) → p < t.1 → P (n, sh, 0, 0) I R L (some (.int 1))) (K0 : ¬ isDg (nxX t p) → P (n, sh, 0, 0) I R L (some (.int 0))) : XM T zX10_isDigit 1 [.ref M] n sh I R L P := by
  refine x_aload_n (pc := 0) dX10_isDigit_0 rfl rfl ?_
  refine x_aload_n (pc := 1) dX10_isDigit_1 rfl rfl ?_
  refine x_callV (pc := 2) (As := []) dX10_isDigit_2 km_X10_next kv_X10_next kl_RX10_249 hM.s rfl rfl (by decide) ⟨Nat.le_refl _, Nat.le_refl _⟩ rfl (Nat.le_of_ble_eq_true rfl) (Nat.le_of_ble_eq_true rfl) (m_next hM hx ht hp hp2 (⟨rfl, rfl, ?_⟩))
  refine x_bipush (pc := 5) (v := 48) dX10_isDigit_5 (by decide) ?_
  refine x_bipush (pc := 7) (v := 57) dX10_isDigit_7 (by decide) ?_
  refine x_callV (pc := 9) (As := [.int _, .int _, .int _]) dX10_isDigit_9 km_X10_in kv_X10_in kl_RX10_231 hM.s rfl rfl (by decide) ⟨Nat.le_refl _, Nat.le_refl _⟩ rfl (Nat.le_of_ble_eq_true rfl) (Nat.le_of_ble_eq_true rfl) (m_in hM.s (fun g1 g2 => ⟨rfl, rfl, ?_⟩) (fun g1 => ⟨rfl, rfl, ?_⟩))
  · skip
    refine x_ireturn (pc := 12) dX10_isDigit_12 ⟨_, rfl, by decide⟩ ⟨Nat.le_refl _, Nat.le_refl _⟩ ?_
    have d1 : isDg (nxX t p) := Decidable.byContradiction (fun q => ((nM_dg (nxX_257 hx p)).mpr q).elim g1 g2)
    exact K1 d1 (dg_lt2 d1)
  · skip
    refine x_ireturn (pc := 12) dX10_isDigit_12 ⟨_, rfl, by decide⟩ ⟨Nat.le_refl _, Nat.le_refl _⟩ ?_
    exact K0 ((nM_dg (nxX_257 hx p)).mp g1)

set_option maxHeartbeats 4000000 in
set_option maxRecDepth 100000 in
theorem lm_tn2 {T : xT} {n : Nat} {sh : Nat → Nat × Nat} {I : xI} {R : xR} {L : xL} {P : xPost} {M : Nat} (K : P (n, sh, 0, 0) I R L (some (.int 1)))  :  X T zX10_takesNumber 2 0 0 P 16 [(0, .ref M), (1, .int 2)] [] (n, sh, 0, 0) (I) R L := by
  refine x_iload_n (pc := 16) dX10_takesNumber_16 rfl rfl ?_
  refine x_iconst (pc := 17) (v := 2) dX10_takesNumber_17 (by decide) ?_
  refine x_icmp_ge_t (pc := 18) (tgt := 63) dX10_takesNumber_18 (by decide) (by decide) ?_
  refine x_iconst (pc := 63) (v := 1) dX10_takesNumber_63 (by decide) ?_
  refine x_ireturn (pc := 64) dX10_takesNumber_64 ⟨_, rfl, by decide⟩ ⟨Nat.le_refl _, Nat.le_refl _⟩ ?_
  exact K

set_option maxHeartbeats 4000000 in
set_option maxRecDepth 100000 in
theorem lm_tn1 {T : xT} {n : Nat} {sh : Nat → Nat × Nat} {I : xI} {R : xR} {L : xL} {P : xPost} {M : Nat} (hM : xModel sh R M) {t : xX} (hx : XOK t) (ht : mTxt I M t) {p : Nat} (hp : I M 13 = nI p) (hp2 : p ≤ t.1) {d : Nat} (hd : I M 14 = nI d) (hd9 : d < 10) (K1 : isDg (nxX t p) → p < t.1 → ∀ J : xI, J M 13 = nI (p + 1) → J M 14 = nI (10 * d + (nxX t p - 48)) → mdR M I J → X T zX10_takesNumber 2 0 0 P 16 [(0, .ref M), (1, .int 2)] [] (n, sh, 0, 0) J R L) (K0 : ¬ isDg (nxX t p) → P (n, sh, 0, 0) I R L (some (.int 1)))  :  X T zX10_takesNumber 2 0 0 P 16 [(0, .ref M), (1, .int 1)] [] (n, sh, 0, 0) (I) R L := by
  have x100 := hx.1
  refine x_iload_n (pc := 16) dX10_takesNumber_16 rfl rfl ?_
  refine x_iconst (pc := 17) (v := 2) dX10_takesNumber_17 (by decide) ?_
  refine x_icmp_ge_f (pc := 18) (tgt := 63) dX10_takesNumber_18 (by decide) (by decide) ?_
  refine x_aload_n (pc := 21) dX10_takesNumber_21 rfl rfl ?_
  refine x_callV (pc := 22) (As := []) dX10_takesNumber_22 km_X10_isDigit kv_X10_isDigit kl_RX10_256 hM.s rfl rfl (by decide) ⟨Nat.le_refl _, Nat.le_refl _⟩ rfl (Nat.le_of_ble_eq_true rfl) (Nat.le_of_ble_eq_true rfl) (m_isDigit hM hx ht hp hp2 (fun hdg hlt => ⟨rfl, rfl, ?_⟩) (fun hdg => ⟨rfl, rfl, ?_⟩))
  · skip
    refine x_if_eq_f (pc := 25) (tgt := 63) dX10_takesNumber_25 (by decide) (by decide) ?_
    refine x_aload_n (pc := 28) dX10_takesNumber_28 rfl rfl ?_
    refine x_bipush (pc := 29) (v := 10) dX10_takesNumber_29 (by decide) ?_
    refine x_aload_n (pc := 31) dX10_takesNumber_31 rfl rfl ?_
    refine x_get (pc := 32) dX10_takesNumber_32 kf_RX10_53 hM.s rfl ?_
    rw [hd]
    refine x_imuln (pc := 35) (a := 10) (b := d) dX10_takesNumber_35 ?_
    refine x_aload_n (pc := 36) dX10_takesNumber_36 rfl rfl ?_
    refine x_callV (pc := 37) (As := []) dX10_takesNumber_37 km_X10_next kv_X10_next kl_RX10_249 hM.s rfl rfl (by decide) ⟨Nat.le_refl _, Nat.le_refl _⟩ rfl (Nat.le_of_ble_eq_true rfl) (Nat.le_of_ble_eq_true rfl) (m_next hM hx ht hp hp2 (⟨rfl, rfl, ?_⟩))
    refine x_iadd (pc := 40) dX10_takesNumber_40 ?_
    refine x_bipush (pc := 41) (v := 48) dX10_takesNumber_41 (by decide) ?_
    refine x_isub (pc := 43) dX10_takesNumber_43 ?_
    refine x_put (pc := 44) dX10_takesNumber_44 kf_RX10_53 hM.s rfl (Or.inl kb_10_14) ?_
    refine x_aload_n (pc := 47) dX10_takesNumber_47 rfl rfl ?_
    refine x_dup (pc := 48) dX10_takesNumber_48 rfl ?_
    refine x_get (pc := 49) dX10_takesNumber_49 kf_RX10_50 hM.s rfl ?_
    rw [show up2 I M 14 _ M 13 = nI p from (up2_k (by decide)).trans hp]
    refine x_iconst (pc := 52) (v := 1) dX10_takesNumber_52 (by decide) ?_
    refine x_iaddn (pc := 53) (a := p) (b := 1) dX10_takesNumber_53 ?_
    refine x_put (pc := 54) dX10_takesNumber_54 kf_RX10_50 hM.s rfl (Or.inl kb_10_13) ?_
    refine x_iinc (pc := 57) (v := 2) (lv' := [(0, .ref M), (1, .int 2)]) dX10_takesNumber_57 rfl (by decide) (by decide) rfl ?_
    refine x_goto (pc := 60) (tgt := 16) dX10_takesNumber_60 (by decide) ?_
    refine K1 hdg hlt _ up2_s ((up2_k (by decide)).trans (up2_s.trans ?_)) (mdR.d.tr mdR.p)
    exact nM_v hd9 hdg
  · skip
    refine x_if_eq_t (pc := 25) (tgt := 63) dX10_takesNumber_25 (by decide) (by decide) ?_
    refine x_iconst (pc := 63) (v := 1) dX10_takesNumber_63 (by decide) ?_
    refine x_ireturn (pc := 64) dX10_takesNumber_64 ⟨_, rfl, by decide⟩ ⟨Nat.le_refl _, Nat.le_refl _⟩ ?_
    exact K0 hdg

set_option maxHeartbeats 4000000 in
set_option maxRecDepth 100000 in
theorem lm_tn0 {T : xT} {n : Nat} {sh : Nat → Nat × Nat} {I : xI} {R : xR} {L : xL} {P : xPost} {M : Nat} (hM : xModel sh R M) {t : xX} (hx : XOK t) (ht : mTxt I M t) {p : Nat} (hp : I M 13 = nI p) (hp2 : p ≤ t.1) {d : Nat} (hd : I M 14 = nI d) (hd9 : d < 10) (K1 : isDg (nxX t p) → p < t.1 → ∀ J : xI, J M 13 = nI (p + 1) → J M 14 = nI (10 * d + (nxX t p - 48)) → mdR M I J → X T zX10_takesNumber 2 0 0 P 16 [(0, .ref M), (1, .int 1)] [] (n, sh, 0, 0) J R L) (K0 : ¬ isDg (nxX t p) → P (n, sh, 0, 0) I R L (some (.int 1)))  :  X T zX10_takesNumber 2 0 0 P 16 [(0, .ref M), (1, .int 0)] [] (n, sh, 0, 0) (I) R L := by
  have x100 := hx.1
  refine x_iload_n (pc := 16) dX10_takesNumber_16 rfl rfl ?_
  refine x_iconst (pc := 17) (v := 2) dX10_takesNumber_17 (by decide) ?_
  refine x_icmp_ge_f (pc := 18) (tgt := 63) dX10_takesNumber_18 (by decide) (by decide) ?_
  refine x_aload_n (pc := 21) dX10_takesNumber_21 rfl rfl ?_
  refine x_callV (pc := 22) (As := []) dX10_takesNumber_22 km_X10_isDigit kv_X10_isDigit kl_RX10_256 hM.s rfl rfl (by decide) ⟨Nat.le_refl _, Nat.le_refl _⟩ rfl (Nat.le_of_ble_eq_true rfl) (Nat.le_of_ble_eq_true rfl) (m_isDigit hM hx ht hp hp2 (fun hdg hlt => ⟨rfl, rfl, ?_⟩) (fun hdg => ⟨rfl, rfl, ?_⟩))
  · skip
    refine x_if_eq_f (pc := 25) (tgt := 63) dX10_takesNumber_25 (by decide) (by decide) ?_
    refine x_aload_n (pc := 28) dX10_takesNumber_28 rfl rfl ?_
    refine x_bipush (pc := 29) (v := 10) dX10_takesNumber_29 (by decide) ?_
    refine x_aload_n (pc := 31) dX10_takesNumber_31 rfl rfl ?_
    refine x_get (pc := 32) dX10_takesNumber_32 kf_RX10_53 hM.s rfl ?_
    rw [hd]
    refine x_imuln (pc := 35) (a := 10) (b := d) dX10_takesNumber_35 ?_
    refine x_aload_n (pc := 36) dX10_takesNumber_36 rfl rfl ?_
    refine x_callV (pc := 37) (As := []) dX10_takesNumber_37 km_X10_next kv_X10_next kl_RX10_249 hM.s rfl rfl (by decide) ⟨Nat.le_refl _, Nat.le_refl _⟩ rfl (Nat.le_of_ble_eq_true rfl) (Nat.le_of_ble_eq_true rfl) (m_next hM hx ht hp hp2 (⟨rfl, rfl, ?_⟩))
    refine x_iadd (pc := 40) dX10_takesNumber_40 ?_
    refine x_bipush (pc := 41) (v := 48) dX10_takesNumber_41 (by decide) ?_
    refine x_isub (pc := 43) dX10_takesNumber_43 ?_
    refine x_put (pc := 44) dX10_takesNumber_44 kf_RX10_53 hM.s rfl (Or.inl kb_10_14) ?_
    refine x_aload_n (pc := 47) dX10_takesNumber_47 rfl rfl ?_
    refine x_dup (pc := 48) dX10_takesNumber_48 rfl ?_
    refine x_get (pc := 49) dX10_takesNumber_49 kf_RX10_50 hM.s rfl ?_
    rw [show up2 I M 14 _ M 13 = nI p from (up2_k (by decide)).trans hp]
    refine x_iconst (pc := 52) (v := 1) dX10_takesNumber_52 (by decide) ?_
    refine x_iaddn (pc := 53) (a := p) (b := 1) dX10_takesNumber_53 ?_
    refine x_put (pc := 54) dX10_takesNumber_54 kf_RX10_50 hM.s rfl (Or.inl kb_10_13) ?_
    refine x_iinc (pc := 57) (v := 1) (lv' := [(0, .ref M), (1, .int 1)]) dX10_takesNumber_57 rfl (by decide) (by decide) rfl ?_
    refine x_goto (pc := 60) (tgt := 16) dX10_takesNumber_60 (by decide) ?_
    refine K1 hdg hlt _ up2_s ((up2_k (by decide)).trans (up2_s.trans ?_)) (mdR.d.tr mdR.p)
    exact nM_v hd9 hdg
  · skip
    refine x_if_eq_t (pc := 25) (tgt := 63) dX10_takesNumber_25 (by decide) (by decide) ?_
    refine x_iconst (pc := 63) (v := 1) dX10_takesNumber_63 (by decide) ?_
    refine x_ireturn (pc := 64) dX10_takesNumber_64 ⟨_, rfl, by decide⟩ ⟨Nat.le_refl _, Nat.le_refl _⟩ ?_
    exact K0 hdg

set_option maxHeartbeats 4000000 in
set_option maxRecDepth 100000 in
theorem m_takesNumber {T : xT} {n : Nat} {sh : Nat → Nat × Nat} {I : xI} {R : xR} {L : xL} {P : xPost} {M : Nat} (hM : xModel sh R M) {t : xX} (hx : XOK t) (ht : mTxt I M t) {p : Nat} (hp : I M 13 = nI p) (hp2 : p ≤ t.1) (K1 : ∀ q k, numF (nxX t) p = some (q, k) → q ≤ t.1 → ∀ J : xI, J M 13 = nI q → J M 14 = nI k → mdR M I J → P (n, sh, 0, 0) J R L (some (.int 1))) (K0 : numF (nxX t) p = none → P (n, sh, 0, 0) I R L (some (.int 0))) : XM T zX10_takesNumber 2 [.ref M] n sh I R L P := by
  have x100 := hx.1
  refine x_aload_n (pc := 0) dX10_takesNumber_0 rfl rfl ?_
  refine x_callV (pc := 1) (As := []) dX10_takesNumber_1 km_X10_isDigit kv_X10_isDigit kl_RX10_256 hM.s rfl rfl (by decide) ⟨Nat.le_refl _, Nat.le_refl _⟩ rfl (Nat.le_of_ble_eq_true rfl) (Nat.le_of_ble_eq_true rfl) (m_isDigit hM hx ht hp hp2 (fun hdg hlt => ⟨rfl, rfl, ?_⟩) (fun hdg => ⟨rfl, rfl, ?_⟩))
  · skip
    refine x_if_ne_t (pc := 4) (tgt := 9) dX10_takesNumber_4 (by decide) (by decide) ?_
    refine x_aload_n (pc := 9) dX10_takesNumber_9 rfl rfl ?_
    refine x_iconst (pc := 10) (v := 0) dX10_takesNumber_10 (by decide) ?_
    refine x_put (pc := 11) dX10_takesNumber_11 kf_RX10_53 hM.s rfl (Or.inl kb_10_14) ?_
    refine x_iconst (pc := 14) (v := 0) dX10_takesNumber_14 (by decide) ?_
    refine x_istore_n (pc := 15) (lv' := [(0, .ref M), (1, .int 0)]) dX10_takesNumber_15 rfl (by decide) rfl ?_
    have ht2 : mTxt (up2 I M 14 0) M t := ht.keepR mdR.d
    refine lm_tn0 hM hx ht2 ((up2_k (by decide)).trans hp) hp2 (d := 0) up2_s (by decide) (fun h1 hl1 J e1 e2 f1 => ?_) (fun h1 => absurd hdg h1)
    have h48 : 48 ≤ nxX t p ∧ nxX t p ≤ 57 := h1
    refine lm_tn1 hM hx (ht2.keepR f1) e1 (by omega) (d := nxX t p - 48) (e2.trans (by rw [show 10 * 0 + (nxX t p - 48) = nxX t p - 48 by omega])) (by omega) (fun h2 hl2 J2 e3 e4 f2 => ?_) (fun h2 => ?_)
    · exact lm_tn2 (K1 _ _ (numF_2 h1 h2) (by omega) J2 e3 e4 ((mdR.d.tr f1).tr f2))
    · exact K1 _ _ (numF_1 h1 h2) (by omega) J e1 (e2.trans (by rw [show 10 * 0 + (nxX t p - 48) = nxX t p - 48 by omega])) (mdR.d.tr f1)
  · skip
    refine x_if_ne_f (pc := 4) (tgt := 9) dX10_takesNumber_4 (by decide) (by decide) ?_
    refine x_iconst (pc := 7) (v := 0) dX10_takesNumber_7 (by decide) ?_
    refine x_ireturn (pc := 8) dX10_takesNumber_8 ⟨_, rfl, by decide⟩ ⟨Nat.le_refl _, Nat.le_refl _⟩ ?_
    exact K0 (numF_n hdg)

