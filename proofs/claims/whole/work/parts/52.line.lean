/-! ===== line ===== -/
def fth (a b c : Nat) : Nat := if far a c < far b c then b else a
def fcn (c : Nat) : Nat := fth (fth (fth 0 5 c) 30 c) 35 c
def stA (a b s : Nat) : Option Nat := match nxt a s with
  | some z => if rnd z b < rnd a b then some z else none
  | none => none
def stB (a b s : Nat) (v : Option Nat) : Option Nat := match stA a b s with
  | some z => some z
  | none => v
def stw (a b : Nat) : Nat := match stB a b 0 (stB a b 1 (stB a b 2 (stB a b 3 none))) with
  | some z => z
  | none => a
theorem stw_all : ∀ a, a < 36 → ∀ b, b < 36 → stw a b < 36 ∧ (rnd a b = 0 → a = b) ∧ (¬ a = b → stB a b 0 (stB a b 1 (stB a b 2 (stB a b 3 none))) = some (stw a b) ∧ rnd (stw a b) b + 1 = rnd a b) := by decide +kernel
theorem rnd_aa : ∀ a, a < 36 → rnd a a = 0 := by decide +kernel
theorem fth_lt {a b c : Nat} (ha : a < 36) (hb : b < 36) : fth a b c < 36 := by
  unfold fth
  split
  · exact hb
  · exact ha
theorem fcn_lt {c : Nat} : fcn c < 36 := fth_lt (fth_lt (fth_lt (by decide) (by decide)) (by decide)) (by decide)
theorem nxt_lt8 {c s z : Nat} (hc : c < 36) (h : nxt c s = some z) : z < 36 := by
  unfold nxt at h
  split at h
  · split at h
    · exact absurd h (by simp)
    · injection h; omega
  · split at h
    · split at h
      · exact absurd h (by simp)
      · injection h; omega
    · split at h
      · split at h
        · exact absurd h (by simp)
        · injection h; omega
      · split at h
        · exact absurd h (by simp)
        · injection h; omega
theorem stA_s {a b s z : Nat} (h : nxt a s = some z) (hr : rnd z b < rnd a b) : stA a b s = some z := by
  unfold stA
  simp only [h]
  exact if_pos hr
theorem stA_f {a b s z : Nat} (h : nxt a s = some z) (hr : ¬ rnd z b < rnd a b) : stA a b s = none := by
  unfold stA
  simp only [h]
  exact if_neg hr
theorem stA_n {a b s : Nat} (h : nxt a s = none) : stA a b s = none := by
  unfold stA
  simp only [h]
theorem stB_s {a b s z : Nat} {v : Option Nat} (h : stA a b s = some z) : stB a b s v = some z := by
  unfold stB
  simp only [h]
theorem stB_n {a b s : Nat} {v : Option Nat} (h : stA a b s = none) : stB a b s v = v := by
  unfold stB
  simp only [h]
theorem stw_of {a b z : Nat} (h : stB a b 0 (stB a b 1 (stB a b 2 (stB a b 3 none))) = some z) : stw a b = z := by
  unfold stw
  simp only [h]
theorem stw_no {a b : Nat} (h : stB a b 0 (stB a b 1 (stB a b 2 (stB a b 3 none))) = none) : stw a b = a := by
  unfold stw
  simp only [h]
/-- the tamer comes nearer step by step: from where he first hears of b -/
def lnW (V : xV) (o : Option xAR) (b : Nat) : Nat → Nat → Int32
  | 0, _ => -5
  | f + 1, t => if (deedN (V 8 0) (V 0) (V 1) (V 2) (V 3) (V 4) t (V 8 2) 0 (lnO o) b).1 = 0 then lnW V o b f (stw t (V 2 b)) else nI (far t (V 2 b))
def spLine (V : xV) (o : Option xAR) (x : Int32) : Int32 := match idx (V 8 0) x with
  | none => -1
  | some b => lnW V o b (rnd (fcn (V 2 b)) (V 2 b)) (fcn (V 2 b))
theorem spLine_s {V : xV} {o : Option xAR} {b : Nat} (hb : b < V 8 0) (h6 : V 8 0 ≤ 6) : spLine V o (nI b) = lnW V o b (rnd (fcn (V 2 b)) (V 2 b)) (fcn (V 2 b)) := by
  unfold spLine
  rw [idx_s hb (by omega)]
theorem spLine_n {V : xV} {o : Option xAR} {x : Int32} (h : x < 0 ∨ nI (V 8 0) ≤ x) : spLine V o x = -1 := by
  unfold spLine
  rw [idx_n h]
def xo : Option Nat → Int32
  | some z => nI z
  | none => -1

set_option maxHeartbeats 4000000 in
set_option maxRecDepth 100000 in
theorem c_fartherOf {T : xT} {n : Nat} {sh : Nat → Nat × Nat} {I : xI} {R : xR} {L : xL} {P : xPost} {a b c : Nat} (ha : a < 36) (hb : b < 36) (hc : c < 36) (K : P (n, sh, 0, 0) I R L (some (.int (nI (fth a b c)))))  : XM T zX9_fartherOf 2 [.int (nI a), .int (nI b), .int (nI c)] n sh I R L P := by
  refine x_iload_n (pc := 0) dX9_fartherOf_0 rfl rfl ?_
  refine x_iload_n (pc := 1) dX9_fartherOf_1 rfl rfl ?_
  refine x_callS (pc := 2) (As := [.int _, .int _]) dX9_fartherOf_2 km_X9_farOf ks_X9_farOf kl_RX9_244 rfl (by decide) ⟨Nat.le_refl _, Nat.le_refl _⟩ rfl (Nat.le_of_ble_eq_true rfl) (Nat.le_of_ble_eq_true rfl) (c_farOf hb hc (⟨rfl, rfl, ?_⟩))
  have := far_lt hb hc
  refine x_iload_n (pc := 5) dX9_fartherOf_5 rfl rfl ?_
  refine x_iload_n (pc := 6) dX9_fartherOf_6 rfl rfl ?_
  refine x_callS (pc := 7) (As := [.int _, .int _]) dX9_fartherOf_7 km_X9_farOf ks_X9_farOf kl_RX9_244 rfl (by decide) ⟨Nat.le_refl _, Nat.le_refl _⟩ rfl (Nat.le_of_ble_eq_true rfl) (Nat.le_of_ble_eq_true rfl) (c_farOf ha hc (⟨rfl, rfl, ?_⟩))
  have := far_lt ha hc
  refine x_icmpn_le (pc := 10) (tgt := 17) (a := (far b c)) (b := (far a c)) dX9_fartherOf_10 (by decide) (by omega) (by omega) (fun c10 => ?_) (fun c10 => ?_)
  · skip
    refine x_iload_n (pc := 17) dX9_fartherOf_17 rfl rfl ?_
    refine x_ireturn (pc := 18) dX9_fartherOf_18 ⟨_, rfl, rfl⟩ ⟨Nat.le_refl _, Nat.le_refl _⟩ ?_
    rw [show fth a b c = a from if_neg (by omega)] at K
    exact K
  · skip
    refine x_iload_n (pc := 13) dX9_fartherOf_13 rfl rfl ?_
    refine x_goto (pc := 14) (tgt := 18) dX9_fartherOf_14 (by decide) ?_
    refine x_ireturn (pc := 18) dX9_fartherOf_18 ⟨_, rfl, rfl⟩ ⟨Nat.le_refl _, Nat.le_refl _⟩ ?_
    rw [show fth a b c = b from if_pos (by omega)] at K
    exact K

set_option maxHeartbeats 4000000 in
set_option maxRecDepth 100000 in
theorem c_farthestCorner {T : xT} {n : Nat} {sh : Nat → Nat × Nat} {I : xI} {R : xR} {L : xL} {P : xPost} {c : Nat} (hc : c < 36) (K : P (n, sh, 0, 0) I R L (some (.int (nI (fcn c)))))  : XM T zX9_farthestCorner 3 [.int (nI c)] n sh I R L P := by
  refine x_iconst (pc := 0) (v := 0) dX9_farthestCorner_0 (by decide) ?_
  refine x_istore_n (pc := 1) (lv' := [(0, .int (nI c)), (1, .int 0)]) dX9_farthestCorner_1 rfl (by decide) rfl ?_
  refine x_iload_n (pc := 2) dX9_farthestCorner_2 rfl rfl ?_
  refine x_iconst (pc := 3) (v := 5) dX9_farthestCorner_3 (by decide) ?_
  refine x_iload_n (pc := 4) dX9_farthestCorner_4 rfl rfl ?_
  refine x_callS (pc := 5) (As := [.int _, .int _, .int _]) dX9_farthestCorner_5 km_X9_fartherOf ks_X9_fartherOf kl_RX9_359 rfl (by decide) ⟨Nat.le_refl _, Nat.le_refl _⟩ rfl (Nat.le_of_ble_eq_true rfl) (Nat.le_of_ble_eq_true rfl) (c_fartherOf (a := 0) (b := 5) (by decide) (by decide) hc (⟨rfl, rfl, ?_⟩))
  refine x_istore_n (pc := 8) (lv' := [(0, .int (nI c)), (1, .int (nI (fth 0 5 c)))]) dX9_farthestCorner_8 rfl (by decide) rfl ?_
  refine x_iload_n (pc := 9) dX9_farthestCorner_9 rfl rfl ?_
  refine x_bipush (pc := 10) (v := 30) dX9_farthestCorner_10 (by decide) ?_
  refine x_iload_n (pc := 12) dX9_farthestCorner_12 rfl rfl ?_
  refine x_callS (pc := 13) (As := [.int _, .int _, .int _]) dX9_farthestCorner_13 km_X9_fartherOf ks_X9_fartherOf kl_RX9_359 rfl (by decide) ⟨Nat.le_refl _, Nat.le_refl _⟩ rfl (Nat.le_of_ble_eq_true rfl) (Nat.le_of_ble_eq_true rfl) (c_fartherOf (a := (fth 0 5 c)) (b := 30) (fth_lt (by decide) (by decide)) (by decide) hc (⟨rfl, rfl, ?_⟩))
  refine x_istore_n (pc := 16) (lv' := [(0, .int (nI c)), (1, .int (nI (fth ((fth 0 5 c)) 30 c)))]) dX9_farthestCorner_16 rfl (by decide) rfl ?_
  refine x_iload_n (pc := 17) dX9_farthestCorner_17 rfl rfl ?_
  refine x_bipush (pc := 18) (v := 35) dX9_farthestCorner_18 (by decide) ?_
  refine x_iload_n (pc := 20) dX9_farthestCorner_20 rfl rfl ?_
  refine x_callS (pc := 21) (As := [.int _, .int _, .int _]) dX9_farthestCorner_21 km_X9_fartherOf ks_X9_fartherOf kl_RX9_359 rfl (by decide) ⟨Nat.le_refl _, Nat.le_refl _⟩ rfl (Nat.le_of_ble_eq_true rfl) (Nat.le_of_ble_eq_true rfl) (c_fartherOf (a := (fth (fth 0 5 c) 30 c)) (b := 35) (fth_lt (fth_lt (by decide) (by decide)) (by decide)) (by decide) hc (⟨rfl, rfl, ?_⟩))
  refine x_ireturn (pc := 24) dX9_farthestCorner_24 ⟨_, rfl, rfl⟩ ⟨Nat.le_refl _, Nat.le_refl _⟩ ?_
  exact K

set_option maxHeartbeats 4000000 in
set_option maxRecDepth 100000 in
theorem l_step0 {T : xT} {n : Nat} {sh : Nat → Nat × Nat} {I : xI} {R : xR} {L : xL} {P : xPost} {a b : Nat} (ha : a < 36) (hb : b < 36) (K1 : ∀ z, stA a b 0 = some z → P (n, sh, 0, 0) I R L (some (.int (nI z)))) (K2 : stA a b 0 = none → X T zX9_stepToward 2 0 0 P 2 [(0, .int (nI a)), (1, .int (nI b)), (2, .int 1)] [] (n, sh, 0, 0) I R L)  :  X T zX9_stepToward 2 0 0 P 2 [(0, .int (nI a)), (1, .int (nI b)), (2, .int 0)] [] (n, sh, 0, 0) (I) R L := by
  refine x_iload_n (pc := 2) dX9_stepToward_2 rfl rfl ?_
  refine x_iconst (pc := 3) (v := 4) dX9_stepToward_3 (by decide) ?_
  refine x_icmp_ge_f (pc := 4) (tgt := 39) dX9_stepToward_4 (by decide) (by decide) ?_
  refine x_iload_n (pc := 7) dX9_stepToward_7 rfl rfl ?_
  refine x_iload_n (pc := 8) dX9_stepToward_8 rfl rfl ?_
  refine x_callS (pc := 9) (As := [.int _, .int _]) dX9_stepToward_9 km_X9_nextTo ks_X9_nextTo kl_RX9_356 rfl (by decide) ⟨Nat.le_refl _, Nat.le_refl _⟩ rfl (Nat.le_of_ble_eq_true rfl) (Nat.le_of_ble_eq_true rfl) (c_nextTo (s := 0) ha (by decide) (fun z hz9 => ⟨rfl, rfl, ?_⟩) (fun hz9 => ⟨rfl, rfl, ?_⟩))
  · skip
    have hz36 := nxt_lt8 ha hz9
    refine x_istore_n (pc := 12) (lv' := [(0, .int (nI a)), (1, .int (nI b)), (2, .int 0), (3, .int (nI z))]) dX9_stepToward_12 rfl (by decide) rfl ?_
    refine x_iload_n (pc := 13) dX9_stepToward_13 rfl rfl ?_
    refine x_iconst (pc := 14) (v := -1) dX9_stepToward_14 (by decide) ?_
    refine x_icmp_eq_f (pc := 15) (tgt := 33) dX9_stepToward_15 (by decide) (nI_nem (by omega)) ?_
    refine x_iload_n (pc := 18) dX9_stepToward_18 rfl rfl ?_
    refine x_iload_n (pc := 19) dX9_stepToward_19 rfl rfl ?_
    refine x_callS (pc := 20) (As := [.int _, .int _]) dX9_stepToward_20 km_X9_roundOf ks_X9_roundOf kl_RX9_240 rfl (by decide) ⟨Nat.le_refl _, Nat.le_refl _⟩ rfl (Nat.le_of_ble_eq_true rfl) (Nat.le_of_ble_eq_true rfl) (c_roundOf hz36 hb (⟨rfl, rfl, ?_⟩))
    have := rnd_lt hz36 hb
    refine x_iload_n (pc := 23) dX9_stepToward_23 rfl rfl ?_
    refine x_iload_n (pc := 24) dX9_stepToward_24 rfl rfl ?_
    refine x_callS (pc := 25) (As := [.int _, .int _]) dX9_stepToward_25 km_X9_roundOf ks_X9_roundOf kl_RX9_240 rfl (by decide) ⟨Nat.le_refl _, Nat.le_refl _⟩ rfl (Nat.le_of_ble_eq_true rfl) (Nat.le_of_ble_eq_true rfl) (c_roundOf ha hb (⟨rfl, rfl, ?_⟩))
    have := rnd_lt ha hb
    refine x_icmpn_ge (pc := 28) (tgt := 33) (a := (rnd z b)) (b := (rnd a b)) dX9_stepToward_28 (by decide) (by omega) (by omega) (fun c28 => ?_) (fun c28 => ?_)
    · skip
      refine x_iinc (pc := 33) (v := 1) (lv' := [(0, .int (nI a)), (1, .int (nI b)), (2, .int 1), (3, .int (nI z))]) dX9_stepToward_33 rfl (by decide) (by decide) rfl ?_
      refine x_goto (pc := 36) (tgt := 2) dX9_stepToward_36 (by decide) ?_
      first | exact X.keep [0, 1, 2] rfl (K2 (stA_n hz9)) | exact X.keep [0, 1, 2] rfl (K2 (stA_f hz9 (by omega)))
    · skip
      refine x_iload_n (pc := 31) dX9_stepToward_31 rfl rfl ?_
      refine x_ireturn (pc := 32) dX9_stepToward_32 ⟨_, rfl, rfl⟩ ⟨Nat.le_refl _, Nat.le_refl _⟩ ?_
      exact K1 z (stA_s hz9 (by omega))
  · skip
    refine x_istore_n (pc := 12) (lv' := [(0, .int (nI a)), (1, .int (nI b)), (2, .int 0), (3, .int (-1))]) dX9_stepToward_12 rfl (by decide) rfl ?_
    refine x_iload_n (pc := 13) dX9_stepToward_13 rfl rfl ?_
    refine x_iconst (pc := 14) (v := -1) dX9_stepToward_14 (by decide) ?_
    refine x_icmp_eq_t (pc := 15) (tgt := 33) dX9_stepToward_15 (by decide) (by decide) ?_
    refine x_iinc (pc := 33) (v := 1) (lv' := [(0, .int (nI a)), (1, .int (nI b)), (2, .int 1), (3, .int (-1))]) dX9_stepToward_33 rfl (by decide) (by decide) rfl ?_
    refine x_goto (pc := 36) (tgt := 2) dX9_stepToward_36 (by decide) ?_
    first | exact X.keep [0, 1, 2] rfl (K2 (stA_n hz9)) | exact X.keep [0, 1, 2] rfl (K2 (stA_f hz9 (by omega)))

set_option maxHeartbeats 4000000 in
set_option maxRecDepth 100000 in
theorem l_step1 {T : xT} {n : Nat} {sh : Nat → Nat × Nat} {I : xI} {R : xR} {L : xL} {P : xPost} {a b : Nat} (ha : a < 36) (hb : b < 36) (K1 : ∀ z, stA a b 1 = some z → P (n, sh, 0, 0) I R L (some (.int (nI z)))) (K2 : stA a b 1 = none → X T zX9_stepToward 2 0 0 P 2 [(0, .int (nI a)), (1, .int (nI b)), (2, .int 2)] [] (n, sh, 0, 0) I R L)  :  X T zX9_stepToward 2 0 0 P 2 [(0, .int (nI a)), (1, .int (nI b)), (2, .int 1)] [] (n, sh, 0, 0) (I) R L := by
  refine x_iload_n (pc := 2) dX9_stepToward_2 rfl rfl ?_
  refine x_iconst (pc := 3) (v := 4) dX9_stepToward_3 (by decide) ?_
  refine x_icmp_ge_f (pc := 4) (tgt := 39) dX9_stepToward_4 (by decide) (by decide) ?_
  refine x_iload_n (pc := 7) dX9_stepToward_7 rfl rfl ?_
  refine x_iload_n (pc := 8) dX9_stepToward_8 rfl rfl ?_
  refine x_callS (pc := 9) (As := [.int _, .int _]) dX9_stepToward_9 km_X9_nextTo ks_X9_nextTo kl_RX9_356 rfl (by decide) ⟨Nat.le_refl _, Nat.le_refl _⟩ rfl (Nat.le_of_ble_eq_true rfl) (Nat.le_of_ble_eq_true rfl) (c_nextTo (s := 1) ha (by decide) (fun z hz9 => ⟨rfl, rfl, ?_⟩) (fun hz9 => ⟨rfl, rfl, ?_⟩))
  · skip
    have hz36 := nxt_lt8 ha hz9
    refine x_istore_n (pc := 12) (lv' := [(0, .int (nI a)), (1, .int (nI b)), (2, .int 1), (3, .int (nI z))]) dX9_stepToward_12 rfl (by decide) rfl ?_
    refine x_iload_n (pc := 13) dX9_stepToward_13 rfl rfl ?_
    refine x_iconst (pc := 14) (v := -1) dX9_stepToward_14 (by decide) ?_
    refine x_icmp_eq_f (pc := 15) (tgt := 33) dX9_stepToward_15 (by decide) (nI_nem (by omega)) ?_
    refine x_iload_n (pc := 18) dX9_stepToward_18 rfl rfl ?_
    refine x_iload_n (pc := 19) dX9_stepToward_19 rfl rfl ?_
    refine x_callS (pc := 20) (As := [.int _, .int _]) dX9_stepToward_20 km_X9_roundOf ks_X9_roundOf kl_RX9_240 rfl (by decide) ⟨Nat.le_refl _, Nat.le_refl _⟩ rfl (Nat.le_of_ble_eq_true rfl) (Nat.le_of_ble_eq_true rfl) (c_roundOf hz36 hb (⟨rfl, rfl, ?_⟩))
    have := rnd_lt hz36 hb
    refine x_iload_n (pc := 23) dX9_stepToward_23 rfl rfl ?_
    refine x_iload_n (pc := 24) dX9_stepToward_24 rfl rfl ?_
    refine x_callS (pc := 25) (As := [.int _, .int _]) dX9_stepToward_25 km_X9_roundOf ks_X9_roundOf kl_RX9_240 rfl (by decide) ⟨Nat.le_refl _, Nat.le_refl _⟩ rfl (Nat.le_of_ble_eq_true rfl) (Nat.le_of_ble_eq_true rfl) (c_roundOf ha hb (⟨rfl, rfl, ?_⟩))
    have := rnd_lt ha hb
    refine x_icmpn_ge (pc := 28) (tgt := 33) (a := (rnd z b)) (b := (rnd a b)) dX9_stepToward_28 (by decide) (by omega) (by omega) (fun c28 => ?_) (fun c28 => ?_)
    · skip
      refine x_iinc (pc := 33) (v := 2) (lv' := [(0, .int (nI a)), (1, .int (nI b)), (2, .int 2), (3, .int (nI z))]) dX9_stepToward_33 rfl (by decide) (by decide) rfl ?_
      refine x_goto (pc := 36) (tgt := 2) dX9_stepToward_36 (by decide) ?_
      first | exact X.keep [0, 1, 2] rfl (K2 (stA_n hz9)) | exact X.keep [0, 1, 2] rfl (K2 (stA_f hz9 (by omega)))
    · skip
      refine x_iload_n (pc := 31) dX9_stepToward_31 rfl rfl ?_
      refine x_ireturn (pc := 32) dX9_stepToward_32 ⟨_, rfl, rfl⟩ ⟨Nat.le_refl _, Nat.le_refl _⟩ ?_
      exact K1 z (stA_s hz9 (by omega))
  · skip
    refine x_istore_n (pc := 12) (lv' := [(0, .int (nI a)), (1, .int (nI b)), (2, .int 1), (3, .int (-1))]) dX9_stepToward_12 rfl (by decide) rfl ?_
    refine x_iload_n (pc := 13) dX9_stepToward_13 rfl rfl ?_
    refine x_iconst (pc := 14) (v := -1) dX9_stepToward_14 (by decide) ?_
    refine x_icmp_eq_t (pc := 15) (tgt := 33) dX9_stepToward_15 (by decide) (by decide) ?_
    refine x_iinc (pc := 33) (v := 2) (lv' := [(0, .int (nI a)), (1, .int (nI b)), (2, .int 2), (3, .int (-1))]) dX9_stepToward_33 rfl (by decide) (by decide) rfl ?_
    refine x_goto (pc := 36) (tgt := 2) dX9_stepToward_36 (by decide) ?_
    first | exact X.keep [0, 1, 2] rfl (K2 (stA_n hz9)) | exact X.keep [0, 1, 2] rfl (K2 (stA_f hz9 (by omega)))

set_option maxHeartbeats 4000000 in
set_option maxRecDepth 100000 in
theorem l_step2 {T : xT} {n : Nat} {sh : Nat → Nat × Nat} {I : xI} {R : xR} {L : xL} {P : xPost} {a b : Nat} (ha : a < 36) (hb : b < 36) (K1 : ∀ z, stA a b 2 = some z → P (n, sh, 0, 0) I R L (some (.int (nI z)))) (K2 : stA a b 2 = none → X T zX9_stepToward 2 0 0 P 2 [(0, .int (nI a)), (1, .int (nI b)), (2, .int 3)] [] (n, sh, 0, 0) I R L)  :  X T zX9_stepToward 2 0 0 P 2 [(0, .int (nI a)), (1, .int (nI b)), (2, .int 2)] [] (n, sh, 0, 0) (I) R L := by
  refine x_iload_n (pc := 2) dX9_stepToward_2 rfl rfl ?_
  refine x_iconst (pc := 3) (v := 4) dX9_stepToward_3 (by decide) ?_
  refine x_icmp_ge_f (pc := 4) (tgt := 39) dX9_stepToward_4 (by decide) (by decide) ?_
  refine x_iload_n (pc := 7) dX9_stepToward_7 rfl rfl ?_
  refine x_iload_n (pc := 8) dX9_stepToward_8 rfl rfl ?_
  refine x_callS (pc := 9) (As := [.int _, .int _]) dX9_stepToward_9 km_X9_nextTo ks_X9_nextTo kl_RX9_356 rfl (by decide) ⟨Nat.le_refl _, Nat.le_refl _⟩ rfl (Nat.le_of_ble_eq_true rfl) (Nat.le_of_ble_eq_true rfl) (c_nextTo (s := 2) ha (by decide) (fun z hz9 => ⟨rfl, rfl, ?_⟩) (fun hz9 => ⟨rfl, rfl, ?_⟩))
  · skip
    have hz36 := nxt_lt8 ha hz9
    refine x_istore_n (pc := 12) (lv' := [(0, .int (nI a)), (1, .int (nI b)), (2, .int 2), (3, .int (nI z))]) dX9_stepToward_12 rfl (by decide) rfl ?_
    refine x_iload_n (pc := 13) dX9_stepToward_13 rfl rfl ?_
    refine x_iconst (pc := 14) (v := -1) dX9_stepToward_14 (by decide) ?_
    refine x_icmp_eq_f (pc := 15) (tgt := 33) dX9_stepToward_15 (by decide) (nI_nem (by omega)) ?_
    refine x_iload_n (pc := 18) dX9_stepToward_18 rfl rfl ?_
    refine x_iload_n (pc := 19) dX9_stepToward_19 rfl rfl ?_
    refine x_callS (pc := 20) (As := [.int _, .int _]) dX9_stepToward_20 km_X9_roundOf ks_X9_roundOf kl_RX9_240 rfl (by decide) ⟨Nat.le_refl _, Nat.le_refl _⟩ rfl (Nat.le_of_ble_eq_true rfl) (Nat.le_of_ble_eq_true rfl) (c_roundOf hz36 hb (⟨rfl, rfl, ?_⟩))
    have := rnd_lt hz36 hb
    refine x_iload_n (pc := 23) dX9_stepToward_23 rfl rfl ?_
    refine x_iload_n (pc := 24) dX9_stepToward_24 rfl rfl ?_
    refine x_callS (pc := 25) (As := [.int _, .int _]) dX9_stepToward_25 km_X9_roundOf ks_X9_roundOf kl_RX9_240 rfl (by decide) ⟨Nat.le_refl _, Nat.le_refl _⟩ rfl (Nat.le_of_ble_eq_true rfl) (Nat.le_of_ble_eq_true rfl) (c_roundOf ha hb (⟨rfl, rfl, ?_⟩))
    have := rnd_lt ha hb
    refine x_icmpn_ge (pc := 28) (tgt := 33) (a := (rnd z b)) (b := (rnd a b)) dX9_stepToward_28 (by decide) (by omega) (by omega) (fun c28 => ?_) (fun c28 => ?_)
    · skip
      refine x_iinc (pc := 33) (v := 3) (lv' := [(0, .int (nI a)), (1, .int (nI b)), (2, .int 3), (3, .int (nI z))]) dX9_stepToward_33 rfl (by decide) (by decide) rfl ?_
      refine x_goto (pc := 36) (tgt := 2) dX9_stepToward_36 (by decide) ?_
      first | exact X.keep [0, 1, 2] rfl (K2 (stA_n hz9)) | exact X.keep [0, 1, 2] rfl (K2 (stA_f hz9 (by omega)))
    · skip
      refine x_iload_n (pc := 31) dX9_stepToward_31 rfl rfl ?_
      refine x_ireturn (pc := 32) dX9_stepToward_32 ⟨_, rfl, rfl⟩ ⟨Nat.le_refl _, Nat.le_refl _⟩ ?_
      exact K1 z (stA_s hz9 (by omega))
  · skip
    refine x_istore_n (pc := 12) (lv' := [(0, .int (nI a)), (1, .int (nI b)), (2, .int 2), (3, .int (-1))]) dX9_stepToward_12 rfl (by decide) rfl ?_
    refine x_iload_n (pc := 13) dX9_stepToward_13 rfl rfl ?_
    refine x_iconst (pc := 14) (v := -1) dX9_stepToward_14 (by decide) ?_
    refine x_icmp_eq_t (pc := 15) (tgt := 33) dX9_stepToward_15 (by decide) (by decide) ?_
    refine x_iinc (pc := 33) (v := 3) (lv' := [(0, .int (nI a)), (1, .int (nI b)), (2, .int 3), (3, .int (-1))]) dX9_stepToward_33 rfl (by decide) (by decide) rfl ?_
    refine x_goto (pc := 36) (tgt := 2) dX9_stepToward_36 (by decide) ?_
    first | exact X.keep [0, 1, 2] rfl (K2 (stA_n hz9)) | exact X.keep [0, 1, 2] rfl (K2 (stA_f hz9 (by omega)))

set_option maxHeartbeats 4000000 in
set_option maxRecDepth 100000 in
theorem l_step3 {T : xT} {n : Nat} {sh : Nat → Nat × Nat} {I : xI} {R : xR} {L : xL} {P : xPost} {a b : Nat} (ha : a < 36) (hb : b < 36) (K1 : ∀ z, stA a b 3 = some z → P (n, sh, 0, 0) I R L (some (.int (nI z)))) (K2 : stA a b 3 = none → X T zX9_stepToward 2 0 0 P 2 [(0, .int (nI a)), (1, .int (nI b)), (2, .int 4)] [] (n, sh, 0, 0) I R L)  :  X T zX9_stepToward 2 0 0 P 2 [(0, .int (nI a)), (1, .int (nI b)), (2, .int 3)] [] (n, sh, 0, 0) (I) R L := by
  refine x_iload_n (pc := 2) dX9_stepToward_2 rfl rfl ?_
  refine x_iconst (pc := 3) (v := 4) dX9_stepToward_3 (by decide) ?_
  refine x_icmp_ge_f (pc := 4) (tgt := 39) dX9_stepToward_4 (by decide) (by decide) ?_
  refine x_iload_n (pc := 7) dX9_stepToward_7 rfl rfl ?_
  refine x_iload_n (pc := 8) dX9_stepToward_8 rfl rfl ?_
  refine x_callS (pc := 9) (As := [.int _, .int _]) dX9_stepToward_9 km_X9_nextTo ks_X9_nextTo kl_RX9_356 rfl (by decide) ⟨Nat.le_refl _, Nat.le_refl _⟩ rfl (Nat.le_of_ble_eq_true rfl) (Nat.le_of_ble_eq_true rfl) (c_nextTo (s := 3) ha (by decide) (fun z hz9 => ⟨rfl, rfl, ?_⟩) (fun hz9 => ⟨rfl, rfl, ?_⟩))
  · skip
    have hz36 := nxt_lt8 ha hz9
    refine x_istore_n (pc := 12) (lv' := [(0, .int (nI a)), (1, .int (nI b)), (2, .int 3), (3, .int (nI z))]) dX9_stepToward_12 rfl (by decide) rfl ?_
    refine x_iload_n (pc := 13) dX9_stepToward_13 rfl rfl ?_
    refine x_iconst (pc := 14) (v := -1) dX9_stepToward_14 (by decide) ?_
    refine x_icmp_eq_f (pc := 15) (tgt := 33) dX9_stepToward_15 (by decide) (nI_nem (by omega)) ?_
    refine x_iload_n (pc := 18) dX9_stepToward_18 rfl rfl ?_
    refine x_iload_n (pc := 19) dX9_stepToward_19 rfl rfl ?_
    refine x_callS (pc := 20) (As := [.int _, .int _]) dX9_stepToward_20 km_X9_roundOf ks_X9_roundOf kl_RX9_240 rfl (by decide) ⟨Nat.le_refl _, Nat.le_refl _⟩ rfl (Nat.le_of_ble_eq_true rfl) (Nat.le_of_ble_eq_true rfl) (c_roundOf hz36 hb (⟨rfl, rfl, ?_⟩))
    have := rnd_lt hz36 hb
    refine x_iload_n (pc := 23) dX9_stepToward_23 rfl rfl ?_
    refine x_iload_n (pc := 24) dX9_stepToward_24 rfl rfl ?_
    refine x_callS (pc := 25) (As := [.int _, .int _]) dX9_stepToward_25 km_X9_roundOf ks_X9_roundOf kl_RX9_240 rfl (by decide) ⟨Nat.le_refl _, Nat.le_refl _⟩ rfl (Nat.le_of_ble_eq_true rfl) (Nat.le_of_ble_eq_true rfl) (c_roundOf ha hb (⟨rfl, rfl, ?_⟩))
    have := rnd_lt ha hb
    refine x_icmpn_ge (pc := 28) (tgt := 33) (a := (rnd z b)) (b := (rnd a b)) dX9_stepToward_28 (by decide) (by omega) (by omega) (fun c28 => ?_) (fun c28 => ?_)
    · skip
      refine x_iinc (pc := 33) (v := 4) (lv' := [(0, .int (nI a)), (1, .int (nI b)), (2, .int 4), (3, .int (nI z))]) dX9_stepToward_33 rfl (by decide) (by decide) rfl ?_
      refine x_goto (pc := 36) (tgt := 2) dX9_stepToward_36 (by decide) ?_
      first | exact X.keep [0, 1, 2] rfl (K2 (stA_n hz9)) | exact X.keep [0, 1, 2] rfl (K2 (stA_f hz9 (by omega)))
    · skip
      refine x_iload_n (pc := 31) dX9_stepToward_31 rfl rfl ?_
      refine x_ireturn (pc := 32) dX9_stepToward_32 ⟨_, rfl, rfl⟩ ⟨Nat.le_refl _, Nat.le_refl _⟩ ?_
      exact K1 z (stA_s hz9 (by omega))
  · skip
    refine x_istore_n (pc := 12) (lv' := [(0, .int (nI a)), (1, .int (nI b)), (2, .int 3), (3, .int (-1))]) dX9_stepToward_12 rfl (by decide) rfl ?_
    refine x_iload_n (pc := 13) dX9_stepToward_13 rfl rfl ?_
    refine x_iconst (pc := 14) (v := -1) dX9_stepToward_14 (by decide) ?_
    refine x_icmp_eq_t (pc := 15) (tgt := 33) dX9_stepToward_15 (by decide) (by decide) ?_
    refine x_iinc (pc := 33) (v := 4) (lv' := [(0, .int (nI a)), (1, .int (nI b)), (2, .int 4), (3, .int (-1))]) dX9_stepToward_33 rfl (by decide) (by decide) rfl ?_
    refine x_goto (pc := 36) (tgt := 2) dX9_stepToward_36 (by decide) ?_
    first | exact X.keep [0, 1, 2] rfl (K2 (stA_n hz9)) | exact X.keep [0, 1, 2] rfl (K2 (stA_f hz9 (by omega)))

set_option maxHeartbeats 4000000 in
set_option maxRecDepth 100000 in
theorem l_step4 {T : xT} {n : Nat} {sh : Nat → Nat × Nat} {I : xI} {R : xR} {L : xL} {P : xPost} {a b : Nat} (K : P (n, sh, 0, 0) I R L (some (.int (nI (a)))))  :  X T zX9_stepToward 2 0 0 P 2 [(0, .int (nI a)), (1, .int (nI b)), (2, .int 4)] [] (n, sh, 0, 0) (I) R L := by
  refine x_iload_n (pc := 2) dX9_stepToward_2 rfl rfl ?_
  refine x_iconst (pc := 3) (v := 4) dX9_stepToward_3 (by decide) ?_
  refine x_icmp_ge_t (pc := 4) (tgt := 39) dX9_stepToward_4 (by decide) (by decide) ?_
  refine x_iload_n (pc := 39) dX9_stepToward_39 rfl rfl ?_
  refine x_ireturn (pc := 40) dX9_stepToward_40 ⟨_, rfl, rfl⟩ ⟨Nat.le_refl _, Nat.le_refl _⟩ ?_
  exact K

set_option maxHeartbeats 4000000 in
set_option maxRecDepth 100000 in
theorem c_stepToward {T : xT} {n : Nat} {sh : Nat → Nat × Nat} {I : xI} {R : xR} {L : xL} {P : xPost} {a b : Nat} (ha : a < 36) (hb : b < 36) (K : P (n, sh, 0, 0) I R L (some (.int (nI (stw a b)))))  : XM T zX9_stepToward 2 [.int (nI a), .int (nI b)] n sh I R L P := by
  refine x_iconst (pc := 0) (v := 0) dX9_stepToward_0 (by decide) ?_
  refine x_istore_n (pc := 1) (lv' := [(0, .int (nI a)), (1, .int (nI b)), (2, .int 0)]) dX9_stepToward_1 rfl (by decide) rfl ?_
  refine l_step0 ha hb (fun z e0 => ?_) (fun e0 => ?_)
  · rw [stw_of (stB_s e0)] at K
    exact K
  refine l_step1 ha hb (fun z e1 => ?_) (fun e1 => ?_)
  · rw [stw_of ((stB_n e0).trans (stB_s e1))] at K
    exact K
  refine l_step2 ha hb (fun z e2 => ?_) (fun e2 => ?_)
  · rw [stw_of ((stB_n e0).trans ((stB_n e1).trans (stB_s e2)))] at K
    exact K
  refine l_step3 ha hb (fun z e3 => ?_) (fun e3 => ?_)
  · rw [stw_of ((stB_n e0).trans ((stB_n e1).trans ((stB_n e2).trans (stB_s e3))))] at K
    exact K
  rw [stw_no ((stB_n e0).trans ((stB_n e1).trans ((stB_n e2).trans (stB_n e3))))] at K
  exact l_step4 K

set_option maxHeartbeats 4000000 in
set_option maxRecDepth 100000 in
theorem l_line {T : xT} {n : Nat} {sh : Nat → Nat × Nat} {I : xI} {R : xR} {L : xL} {P : xPost} {lr nw im tr rd hu se ac M : Nat} (hG : GEO sh R lr nw im tr rd hu se ac M) {V : xV} {o : Option xAR} {b N : Nat} {sp : Int32} (v6 : V 8 0 ≤ 6) (hb : b < V 8 0) (hc : V 2 b < 36) (hN : N < 12) (K : ∀ I2 : xI, trP tr I I2 → P (n, sh, 0, 0) I2 R L (some (.int sp)))  : ∀ (w i : Nat), i + w = N → ∀ (J : xI) (t : Nat), SC sh R J tr (V 8 0) (V 0) (V 1) (V 2) (V 3) (V 4) t (V 8 2) 0 (lnO o) → trP tr I J → sp = lnW V o b w t → X T zX9_line 6 0 0 P 62 [(0, .ref lr), (1, .int (nI b)), (2, .int (nI (V 2 b))), (3, .int (nI N)), (4, .int (nI i))] [] (n, sh, 0, 0) (J) R L := by
  intro w
  induction w with
  | zero =>
    intro i hw J t hj fj hv9
    have hz : i = N := by omega
    refine x_iload (pc := 62) dX9_line_62 rfl ?_
    refine x_iload_n (pc := 64) dX9_line_64 rfl rfl ?_
    refine x_icmpn_ge_t (pc := 65) (tgt := 115) (a := i) (b := N) dX9_line_65 (by decide) (by omega) (by omega) (by omega) ?_
    refine x_bipush (pc := 115) (v := -5) dX9_line_115 (by decide) ?_
    refine x_ireturn (pc := 117) dX9_line_117 ⟨_, rfl, rfl⟩ ⟨Nat.le_refl _, Nat.le_refl _⟩ ?_
    have h9 := K J fj
    rw [hv9] at h9
    exact h9
  | succ w ih =>
    intro i hw J t hj fj hv9
    have hi : i < N := by omega
    refine x_iload (pc := 62) dX9_line_62 rfl ?_
    refine x_iload_n (pc := 64) dX9_line_64 rfl rfl ?_
    refine x_icmpn_ge_f (pc := 65) (tgt := 115) (a := i) (b := N) dX9_line_65 (by decide) (by omega) (by omega) (by omega) ?_
    refine x_aload_n (pc := 68) dX9_line_68 rfl rfl ?_
    refine x_getr (pc := 69) dX9_line_69 kf_RX9_21 hG.g_x rfl hG.g_f2 ?_
    refine x_iload_n (pc := 72) dX9_line_72 rfl rfl ?_
    refine x_callV (pc := 73) (As := [.int _]) dX9_line_73 km_X6_deedOf kv_X6_deedOf kl_RX9_139 hG.g_tr.1 rfl rfl (by decide) ⟨Nat.le_refl _, Nat.le_refl _⟩ rfl (Nat.le_of_ble_eq_true rfl) (Nat.le_of_ble_eq_true rfl) (c_deedOf hj hb (fun I2 g1 g2 g3 => ⟨rfl, rfl, ?_⟩))
    have h2 := hj.keep g1 g2
    have dlt : (deedN (V 8 0) (V 0) (V 1) (V 2) (V 3) (V 4) t (V 8 2) 0 (lnO o) b).1 < 4 := deedN_code
    have ht := hj.2.2.2.2.2.2.2.2.2.1
    have ff : trP tr I I2 := fun a ha => by rw [g1 a (by omega) (by omega)]; exact fj a ha
    refine x_ifn_eq (pc := 76) (tgt := 91) (a := (deedN (V 8 0) (V 0) (V 1) (V 2) (V 3) (V 4) t (V 8 2) 0 (lnO o) b).1) dX9_line_76 (by decide) (by omega) (fun c76 => ?_) (fun c76 => ?_)
    · skip
      refine x_aload_n (pc := 91) dX9_line_91 rfl rfl ?_
      refine x_getr (pc := 92) dX9_line_92 kf_RX9_21 hG.g_x rfl hG.g_f2 ?_
      refine x_aload_n (pc := 95) dX9_line_95 rfl rfl ?_
      refine x_getr (pc := 96) dX9_line_96 kf_RX9_21 hG.g_x rfl hG.g_f2 ?_
      refine x_get (pc := 99) dX9_line_99 kf_RX9_88 hG.g_tr.1 rfl ?_
      rw [h2.2.2.2.2.2.2.2.2.1]
      refine x_iload_n (pc := 102) dX9_line_102 rfl rfl ?_
      refine x_callS (pc := 103) (As := [.int _, .int _]) dX9_line_103 km_X9_stepToward ks_X9_stepToward kl_RX9_247 rfl (by decide) ⟨Nat.le_refl _, Nat.le_refl _⟩ rfl (Nat.le_of_ble_eq_true rfl) (Nat.le_of_ble_eq_true rfl) (c_stepToward ht hc (⟨rfl, rfl, ?_⟩))
      refine x_put (pc := 106) dX9_line_106 kf_RX9_88 hG.g_tr.1 rfl (Or.inl kb_6_8) ?_
      refine x_iinc (pc := 109) (v := nI (i + 1)) (lv' := [(0, .ref lr), (1, .int (nI b)), (2, .int (nI (V 2 b))), (3, .int (nI N)), (4, .int (nI (i + 1)))]) dX9_line_109 rfl (nI_1 _) (by decide) rfl ?_
      refine x_goto (pc := 112) (tgt := 62) dX9_line_112 (by decide) ?_
      exact ih (i + 1) (by omega) _ (stw t (V 2 b)) (h2.setTamer (stw_all t ht _ hc).1) (fun a ha => by rw [up2_row (by omega)]; exact ff a ha) (hv9.trans (if_pos c76))
    · skip
      refine x_aload_n (pc := 79) dX9_line_79 rfl rfl ?_
      refine x_getr (pc := 80) dX9_line_80 kf_RX9_21 hG.g_x rfl hG.g_f2 ?_
      refine x_get (pc := 83) dX9_line_83 kf_RX9_88 hG.g_tr.1 rfl ?_
      rw [h2.2.2.2.2.2.2.2.2.1]
      refine x_iload_n (pc := 86) dX9_line_86 rfl rfl ?_
      refine x_callS (pc := 87) (As := [.int _, .int _]) dX9_line_87 km_X9_farOf ks_X9_farOf kl_RX9_244 rfl (by decide) ⟨Nat.le_refl _, Nat.le_refl _⟩ rfl (Nat.le_of_ble_eq_true rfl) (Nat.le_of_ble_eq_true rfl) (c_farOf ht hc (⟨rfl, rfl, ?_⟩))
      have := far_lt ht hc
      refine x_ireturn (pc := 90) dX9_line_90 ⟨_, rfl, rfl⟩ ⟨Nat.le_refl _, Nat.le_refl _⟩ ?_
      have h9 := K I2 ff
      rw [hv9, show lnW V o b (w + 1) t = nI (far t (V 2 b)) from if_neg c76] at h9
      exact h9

set_option maxHeartbeats 4000000 in
set_option maxRecDepth 100000 in
theorem c_line {T : xT} {n : Nat} {sh : Nat → Nat × Nat} {I : xI} {R : xR} {L : xL} {P : xPost} {lr nw im tr rd hu se ac M : Nat} (hG : GEO sh R lr nw im tr rd hu se ac M) {V : xV} {B rc : Nat} {ars : Nat → xAR} (h : FSC I nw V) (hv : VOK V B) (hB : B < 800000) (hr : cRings I lr rc ars) (hV6 : V 8 6 ≤ rc) (hRn : R nw 11 = rgRef V) {x : Int32} (K : ∀ (I2 : xI) (R2 : xR), trP tr I I2 → trR tr R R2 → P (n, sh, 0, 0) I2 R2 L (some (.int (spLine V (rgVal ars V) x))))  : XM T zX9_line 6 [.ref lr, .int x] n sh I R L P := by
  obtain ⟨v6, v12, v10, vb, vf, vw, vm, vta, vte, vod, vrg, vdi⟩ := id hv
  refine x_aload_n (pc := 0) dX9_line_0 rfl rfl ?_
  refine x_getr (pc := 1) dX9_line_1 kf_RX9_12 hG.g_x rfl hG.g_f0 ?_
  refine x_iload_n (pc := 4) dX9_line_4 rfl rfl ?_
  refine x_callV (pc := 5) (As := [.int _]) dX9_line_5 km_X6_isBeast kv_X6_isBeast kl_RX9_102 hG.g_nw.1 rfl rfl (by decide) ⟨Nat.le_refl _, Nat.le_refl _⟩ rfl (Nat.le_of_ble_eq_true rfl) (Nat.le_of_ble_eq_true rfl) (c_isBeast hG.g_nw (h.row 2 (by decide)) v6 (fun k hk ek => ⟨rfl, rfl, ?_⟩) (fun h1 => ⟨rfl, rfl, ?_⟩))
  · skip
    subst ek
    refine x_if_ne_t (pc := 8) (tgt := 13) dX9_line_8 (by decide) (by decide) ?_
    refine x_aload_n (pc := 13) dX9_line_13 rfl rfl ?_
    refine x_getr (pc := 14) dX9_line_14 kf_RX9_21 hG.g_x rfl hG.g_f2 ?_
    refine x_aload_n (pc := 17) dX9_line_17 rfl rfl ?_
    refine x_getr (pc := 18) dX9_line_18 kf_RX9_12 hG.g_x rfl hG.g_f0 ?_
    refine x_callV (pc := 21) (As := [.ref _]) dX9_line_21 km_X6_copyFrom kv_X6_copyFrom kl_RX9_197 hG.g_tr.1 rfl rfl (by decide) ⟨Nat.le_refl _, Nat.le_refl _⟩ rfl (Nat.le_of_ble_eq_true rfl) (Nat.le_of_ble_eq_true rfl) (c_scCopy hG.g_tr hG.g_nw (by have e1 := hG.g_e_tr; have e2 := hG.g_e_nw; omega) (fun j hj => ⟨(h.1 j hj).1, vsz_le hv hj⟩) (fun I2 k1 k2 k3 k4 k5 k6 => ⟨rfl, rfl, ?_⟩))
    have hsc := h.toTr hG hv hB hr hV6 hRn k1 k2 k3 k4 k5 k6
    have hG : GEO sh (up2 R tr 11 (R nw 11)) lr nw im tr rd hu se ac M := hG.keepR (fun a k hk => trR.up a k (Or.inr hk))
    have ff : trP tr I I2 := fun a ha => k1 a (by omega)
    have q2 : bRow I2 (nw + 5) (V 8 0) (V 2) := (h.keepN hG ff).row 2 (by decide)
    have hcc := (vb k hk).2.2.1
    have hr9 := rnd_lt (fcn_lt (c := V 2 k)) hcc
    refine x_aload_n (pc := 24) dX9_line_24 rfl rfl ?_
    refine x_getr (pc := 25) dX9_line_25 kf_RX9_12 hG.g_x rfl hG.g_f0 ?_
    refine x_getr (pc := 28) dX9_line_28 kf_RX9_118 hG.g_nw.1 rfl hG.g_nw.2.2.2.2.2.1 ?_
    refine x_iload_n (pc := 31) dX9_line_31 rfl rfl ?_
    refine x_callV (pc := 32) (As := [.int _]) dX9_line_32 km_X5_at kv_X5_at kl_RX9_109 hG.g_nw.2.2.2.2.2.2.2.2.2.2.2.2.2.1.1 rfl rfl (by decide) ⟨Nat.le_refl _, Nat.le_refl _⟩ rfl (Nat.le_of_ble_eq_true rfl) (Nat.le_of_ble_eq_true rfl) (c_at (hG.g_nw.2.2.2.2.2.2.2.2.2.2.2.2.2.1) (⟨rfl, rfl, ?_⟩))
    rw [q2.1, rAt_in (m := V 8 0) hk v6 (by decide), q2.2 _ hk]
    refine x_istore_n (pc := 35) (lv' := [(0, .ref lr), (1, .int (nI k)), (2, .int (nI (V 2 k)))]) dX9_line_35 rfl (by decide) rfl ?_
    refine x_aload_n (pc := 36) dX9_line_36 rfl rfl ?_
    refine x_getr (pc := 37) dX9_line_37 kf_RX9_21 hG.g_x rfl hG.g_f2 ?_
    refine x_iload_n (pc := 40) dX9_line_40 rfl rfl ?_
    refine x_callS (pc := 41) (As := [.int _]) dX9_line_41 km_X9_farthestCorner ks_X9_farthestCorner kl_RX9_237 rfl (by decide) ⟨Nat.le_refl _, Nat.le_refl _⟩ rfl (Nat.le_of_ble_eq_true rfl) (Nat.le_of_ble_eq_true rfl) (c_farthestCorner hcc (⟨rfl, rfl, ?_⟩))
    refine x_put (pc := 44) dX9_line_44 kf_RX9_88 hG.g_tr.1 rfl (Or.inl kb_6_8) ?_
    have hj0 := hsc.setTamer (fcn_lt (c := V 2 k))
    refine x_aload_n (pc := 47) dX9_line_47 rfl rfl ?_
    refine x_getr (pc := 48) dX9_line_48 kf_RX9_21 hG.g_x rfl hG.g_f2 ?_
    refine x_get (pc := 51) dX9_line_51 kf_RX9_88 hG.g_tr.1 rfl ?_
    rw [hj0.2.2.2.2.2.2.2.2.1]
    refine x_iload_n (pc := 54) dX9_line_54 rfl rfl ?_
    refine x_callS (pc := 55) (As := [.int _, .int _]) dX9_line_55 km_X9_roundOf ks_X9_roundOf kl_RX9_240 rfl (by decide) ⟨Nat.le_refl _, Nat.le_refl _⟩ rfl (Nat.le_of_ble_eq_true rfl) (Nat.le_of_ble_eq_true rfl) (c_roundOf (fcn_lt (c := V 2 k)) hcc (⟨rfl, rfl, ?_⟩))
    have := rnd_lt (fcn_lt (c := V 2 k)) hcc
    refine x_istore_n (pc := 58) (lv' := [(0, .ref lr), (1, .int (nI k)), (2, .int (nI (V 2 k))), (3, .int (nI (rnd (fcn (V 2 k)) (V 2 k))))]) dX9_line_58 rfl (by decide) rfl ?_
    refine x_iconst (pc := 59) (v := 0) dX9_line_59 (by decide) ?_
    refine x_istore (pc := 60) (lv' := [(0, .ref lr), (1, .int (nI k)), (2, .int (nI (V 2 k))), (3, .int (nI (rnd (fcn (V 2 k)) (V 2 k)))), (4, .int 0)]) dX9_line_60 (by decide) rfl ?_
    exact l_line hG v6 hk hcc hr9 (fun I3 f3 => K I3 _ (fun a ha => (f3 a ha).trans (by rw [up2_row (by omega)]; exact ff a ha)) trR.up) _ 0 (by omega) _ _ hj0 (fun _ _ => rfl) (spLine_s hk v6)
  · skip
    refine x_if_ne_f (pc := 8) (tgt := 13) dX9_line_8 (by decide) (by decide) ?_
    refine x_iconst (pc := 11) (v := -1) dX9_line_11 (by decide) ?_
    refine x_ireturn (pc := 12) dX9_line_12 ⟨_, rfl, rfl⟩ ⟨Nat.le_refl _, Nat.le_refl _⟩ ?_
    have h9 := K I R (fun _ _ => rfl) trR.rf
    rw [spLine_n h1] at h9
    exact h9

