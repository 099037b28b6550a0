/-! ===== the text: the reference reads a TEST ===== -/
def opN : List Nat → Nat
  | [] => 0
  | c :: S => (if c = 33 ∨ c = 40 then 1 else 0) + opN S
theorem whN_op : ∀ S : List Nat, whN S ≤ opN S ∧ opN (S.drop (whN S)) = opN S - whN S
  | [] => ⟨Nat.le_refl _, rfl⟩
  | c :: S => by
    by_cases z : c = 33
    · have e : whN (c :: S) = whN S + 1 := if_pos z
      have e2 : opN (c :: S) = 1 + opN S := by
        show (if c = 33 ∨ c = 40 then 1 else 0) + opN S = _
        rw [if_pos (Or.inl z)]
      obtain ⟨h1, h2⟩ := whN_op S
      rw [e, e2, List.drop_succ_cons, h2]
      exact ⟨by omega, by omega⟩
    · have e : whN (c :: S) = 0 := if_neg z
      rw [e]
      exact ⟨Nat.zero_le _, rfl⟩
theorem seN_op {q : Nat} : ∀ S : List Nat, opN (S.drop (seN q S)) = opN S
  | [] => rfl
  | c :: S => by
    by_cases z : c = 38 ∨ (c = 124 ∧ q ≠ 38)
    · have e2 : opN (c :: S) = opN S := by
        show (if c = 33 ∨ c = 40 then 1 else 0) + opN S = _
        rw [if_neg (by omega), Nat.zero_add]
      rw [seN_p z, List.drop_succ_cons, seN_op S, e2]
    · rw [seN_z z]
      rfl
theorem whN_le : ∀ S : List Nat, whN S ≤ S.length
  | [] => Nat.le_refl _
  | c :: S => by
    have h := whN_le S
    show (if c = 33 then whN S + 1 else 0) ≤ S.length + 1
    split <;> omega
theorem seN_le {q : Nat} : ∀ S : List Nat, seN q S ≤ S.length
  | [] => Nat.le_refl _
  | c :: S => by
    have h := seN_le (q := q) S
    show (if c = 38 ∨ (c = 124 ∧ q ≠ 38) then seN q S + 1 else 0) ≤ S.length + 1
    split <;> omega
theorem emS_len {q : Nat} {S : List Nat} : (emS q S).length = seN q S := by
  unfold emS
  rw [List.length_map, List.length_take]
  have h := seN_le (q := q) S
  omega
/-- what may wait -/
def WOK (S : List Nat) : Prop := ∀ x ∈ S, x = 33 ∨ x = 40 ∨ x = 38 ∨ x = 124
theorem WOK.drop {S : List Nat} (h : WOK S) (k : Nat) : WOK (S.drop k) := fun x hx => h x (List.mem_of_mem_drop hx)
theorem WOK.cons {S : List Nat} {c : Nat} (h : WOK S) (hc : c = 33 ∨ c = 40 ∨ c = 38 ∨ c = 124) : WOK (c :: S) := fun x hx => (List.mem_cons.mp hx).elim (fun e => e ▸ hc) (h x)
theorem WOK.tail {S : List Nat} {c : Nat} (h : WOK (c :: S)) : WOK S := fun x hx => h x (List.mem_cons_of_mem _ hx)
/-- behind what is settled stands no sign to settle -/
theorem seN_top {S : List Nat} {c : Nat} {S' : List Nat} (h : WOK S) (hd : S.drop (seN 124 S) = c :: S') : c = 33 ∨ c = 40 := by
  induction S with
  | nil => cases hd
  | cons x S ih =>
    by_cases z : x = 38 ∨ (x = 124 ∧ (124 : Nat) ≠ 38)
    · rw [seN_p z, List.drop_succ_cons] at hd
      exact ih h.tail hd
    · rw [seN_z z] at hd
      cases hd
      have := h c List.mem_cons_self
      omega
/-- no texts, no rings of old are touched -/
def mdX (M : Nat) (I J : xI) : Prop := (∀ a, a ≠ M → a ≠ M + 13 → a ≠ M + 14 → J a = I a) ∧ ∀ k, k ≠ 13 → k ≠ 14 → k ≠ 23 → k ≠ 24 → k ≠ 25 → J M k = I M k
theorem mdX.rf {M : Nat} {I : xI} : mdX M I I := ⟨fun _ _ _ _ => rfl, fun _ _ _ _ _ _ => rfl⟩
theorem mdX.tr {M : Nat} {I J J' : xI} (h : mdX M I J) (h' : mdX M J J') : mdX M I J' := ⟨fun a p q r => (h'.1 a p q r).trans (h.1 a p q r), fun k p q r s t => (h'.2 k p q r s t).trans (h.2 k p q r s t)⟩
theorem mdR.x {M : Nat} {I J : xI} (h : mdR M I J) : mdX M I J := ⟨fun a p _ _ => h.1 a p, fun k p q _ _ _ => h.2 k p q⟩
theorem mdW.x {M : Nat} {I J : xI} (h : mdW M I J) : mdX M I J := ⟨fun a p q _ => h.1 a p q, fun k _ _ p q r => h.2 k p q r⟩
theorem mTxt.keepX {M : Nat} {I J : xI} {t : xX} (h : mTxt I M t) (f : mdX M I J) : mTxt J M t := ⟨(f.2 12 (by decide) (by decide) (by decide) (by decide) (by decide)).trans h.1, fun i hi => (congrFun (f.1 (M + 7) (by omega) (by omega) (by omega)) i).trans (h.2 i hi)⟩
theorem WTS.keepR {M : Nat} {I J : xI} {S : List Nat} (h : WTS I M S) (f : mdR M I J) : WTS J M S := ⟨(f.2 24 (by decide) (by decide)).trans h.1, h.2.1, fun i x hi => ⟨(h.2.2 i x hi).1, (congrFun (f.1 (M + 14) (by omega)) _).trans (h.2.2 i x hi).2⟩⟩
theorem SGS.keepR {M b : Nat} {I J : xI} {s : List Int32} (h : SGS I M b s) (f : mdR M I J) : SGS J M b s := h.keep (f.2 23 (by decide) (by decide)) (f.1 (M + 13) (by omega))
theorem tst_n0 {nx : Nat → Nat} {p : Nat} (h : ¬ isLt (nx p)) : tstF nx p = (p, none) := if_neg h
theorem tst_n1 {nx : Nat → Nat} {p : Nat} (h : isLt (nx p)) (h' : ¬ isSg (nx (p + 1))) : tstF nx p = (p + 1, none) := (if_pos h).trans (if_neg h')
theorem tst_n2 {nx : Nat → Nat} {p : Nat} (h : isLt (nx p)) (h' : isSg (nx (p + 1))) (hn : numF nx (p + 2) = none) : tstF nx p = (p + 2, none) := by
  unfold tstF
  rw [if_pos h, if_pos h', hn]
theorem tst_s {nx : Nat → Nat} {p q k : Nat} (h : isLt (nx p)) (h' : isSg (nx (p + 1))) (hn : numF nx (p + 2) = some (q, k)) : tstF nx p = (q, some (eT (nx p) (nx (p + 1)) k)) := by
  unfold tstF
  rw [if_pos h, if_pos h', hn]
theorem lt_lt2 {t : xX} {p : Nat} (h : isLt (nxX t p)) : p < t.1 := by
  rcases h with h | h | h | h | h <;> exact nxX_lt h (by decide)
theorem sg_lt2 {t : xX} {p : Nat} (h : isSg (nxX t p)) : p < t.1 := by
  have h : 60 ≤ nxX t p ∧ nxX t p ≤ 62 := h
  exact nxX_lt rfl (by omega)
theorem nM_sv {a : Nat} (h : isSg a) : nM a = nI a := nM_lit (by have h : 60 ≤ a ∧ a ≤ 62 := h; omega)

theorem WTS.keepP {M : Nat} {I J : xI} {S : List Nat} (h : WTS I M S) (f : ∀ a, a ≠ M → a ≠ M + 13 → J a = I a) (g : ∀ k, k ≠ 23 → J M k = I M k) : WTS J M S := ⟨(g 24 (by decide)).trans h.1, h.2.1, fun i x hi => ⟨(h.2.2 i x hi).1, (congrFun (f (M + 14) (by omega) (by omega)) _).trans (h.2.2 i x hi).2⟩⟩

set_option maxHeartbeats 4000000 in
set_option maxRecDepth 100000 in
theorem m_takesTest {T : xT} {n : Nat} {sh : Nat → Nat × Nat} {I : xI} {R : xR} {L : xL} {P : xPost} {M : Nat} (hM : xModel sh R M) {t : xX} (hx : XOK t) (ht : mTxt I M t) {p b o : Nat} (hp : I M 13 = nI p) (hp2 : p ≤ t.1) {S : List Nat} {s : List Int32} (hw : WTS I M S) (hs : SGS I M b s) (ho : I M 25 = nI o) (hoo : whN S ≤ o) (ho2 : o < 200) (hb : p < t.1 → b + s.length + 1 + whN S ≤ 600) (K1 : ∀ (q : Nat) (e : xCE) (J : xI), tstF (nxX t) p = (q, some e) → q ≤ t.1 → J M 13 = nI q → WTS J M (S.drop (whN S)) → SGS J M b (s ++ e.2.1 ++ List.replicate (whN S) (-33)) → J M 25 = nI (o - whN S) → mdX M I J → P (n, sh, 0, 0) J R L (some (.int 1))) (K0 : ∀ (q : Nat) (J : xI), tstF (nxX t) p = (q, none) → q ≤ t.1 → J M 13 = nI q → SGS J M b s → mdX M I J → P (n, sh, 0, 0) J R L (some (.int 0))) : XM T zX10_takesTest 3 [.ref M] n sh I R L P := by
  have x100 := hx.1
  have hpl := @plL_lt (nxX t p)
  refine x_aload_n (pc := 0) dX10_takesTest_0 rfl rfl ?_
  refine x_aload_n (pc := 1) dX10_takesTest_1 rfl rfl ?_
  refine x_callV (pc := 2) (As := []) dX10_takesTest_2 km_X10_next kv_X10_next kl_RX10_249 hM.s rfl rfl (by decide) ⟨Nat.le_refl _, Nat.le_refl _⟩ rfl (Nat.le_of_ble_eq_true rfl) (Nat.le_of_ble_eq_true rfl) (m_next hM hx ht hp hp2 (⟨rfl, rfl, ?_⟩))
  refine x_callV (pc := 5) (As := [.int _]) dX10_takesTest_5 km_X10_place kv_X10_place kl_RX10_264 hM.s rfl rfl (by decide) ⟨Nat.le_refl _, Nat.le_refl _⟩ rfl (Nat.le_of_ble_eq_true rfl) (Nat.le_of_ble_eq_true rfl) (m_place (nxX_257 hx p) (fun h1 => ⟨rfl, rfl, ?_⟩) (fun h1 => ⟨rfl, rfl, ?_⟩))
  · skip
    have hl1 := lt_lt2 h1
    have hb := hb hl1
    refine x_istore_n (pc := 8) (lv' := [(0, .ref M), (1, .int (nI (plL (nxX t p))))]) dX10_takesTest_8 rfl (by decide) rfl ?_
    refine x_iload_n (pc := 9) dX10_takesTest_9 rfl rfl ?_
    refine x_ifn_ge (pc := 10) (tgt := 15) (a := (plL (nxX t p))) dX10_takesTest_10 (by decide) (by omega) ?_
    refine x_aload_n (pc := 15) dX10_takesTest_15 rfl rfl ?_
    refine x_dup (pc := 16) dX10_takesTest_16 rfl ?_
    refine x_get (pc := 17) dX10_takesTest_17 kf_RX10_50 hM.s rfl ?_
    rw [hp]
    refine x_iconst (pc := 20) (v := 1) dX10_takesTest_20 (by decide) ?_
    refine x_iaddn (pc := 21) (a := p) (b := 1) dX10_takesTest_21 ?_
    refine x_put (pc := 22) dX10_takesTest_22 kf_RX10_50 hM.s rfl (Or.inl kb_10_13) ?_
    refine x_aload_n (pc := 25) dX10_takesTest_25 rfl rfl ?_
    refine x_callV (pc := 26) (As := []) dX10_takesTest_26 km_X10_next kv_X10_next kl_RX10_249 hM.s rfl rfl (by decide) ⟨Nat.le_refl _, Nat.le_refl _⟩ rfl (Nat.le_of_ble_eq_true rfl) (Nat.le_of_ble_eq_true rfl) (m_next (p := p + 1) hM hx (ht.keepR mdR.p) up2_s (by omega) (⟨rfl, rfl, ?_⟩))
    refine x_istore_n (pc := 29) (lv' := [(0, .ref M), (1, .int (nI (plL (nxX t p)))), (2, .int (nM (nxX t (p + 1))))]) dX10_takesTest_29 rfl (by decide) rfl ?_
    refine x_aload_n (pc := 30) dX10_takesTest_30 rfl rfl ?_
    refine x_iload_n (pc := 31) dX10_takesTest_31 rfl rfl ?_
    refine x_bipush (pc := 32) (v := 60) dX10_takesTest_32 (by decide) ?_
    refine x_bipush (pc := 34) (v := 62) dX10_takesTest_34 (by decide) ?_
    refine x_callV (pc := 36) (As := [.int _, .int _, .int _]) dX10_takesTest_36 km_X10_in kv_X10_in kl_RX10_231 hM.s rfl rfl (by decide) ⟨Nat.le_refl _, Nat.le_refl _⟩ rfl (Nat.le_of_ble_eq_true rfl) (Nat.le_of_ble_eq_true rfl) (m_in hM.s (fun g1 g2 => ⟨rfl, rfl, ?_⟩) (fun g1 => ⟨rfl, rfl, ?_⟩))
    · skip
      have h2 : isSg (nxX t (p + 1)) := Decidable.byContradiction (fun q => ((nM_sg (nxX_257 hx (p + 1))).mpr q).elim g1 g2)
      have hl2 := sg_lt2 h2
      refine x_if_ne_t (pc := 39) (tgt := 44) dX10_takesTest_39 (by decide) (by decide) ?_
      refine x_aload_n (pc := 44) dX10_takesTest_44 rfl rfl ?_
      refine x_dup (pc := 45) dX10_takesTest_45 rfl ?_
      refine x_get (pc := 46) dX10_takesTest_46 kf_RX10_50 hM.s rfl ?_
      rw [show up2 I M 13 (nI (p + 1)) M 13 = nI (p + 1) from up2_s]
      refine x_iconst (pc := 49) (v := 1) dX10_takesTest_49 (by decide) ?_
      refine x_iaddn (pc := 50) (a := (p + 1)) (b := 1) dX10_takesTest_50 ?_
      refine x_put (pc := 51) dX10_takesTest_51 kf_RX10_50 hM.s rfl (Or.inl kb_10_13) ?_
      refine x_aload_n (pc := 54) dX10_takesTest_54 rfl rfl ?_
      refine x_callV (pc := 55) (As := []) dX10_takesTest_55 km_X10_takesNumber kv_X10_takesNumber kl_RX10_267 hM.s rfl rfl (by decide) ⟨Nat.le_refl _, Nat.le_refl _⟩ rfl (Nat.le_of_ble_eq_true rfl) (Nat.le_of_ble_eq_true rfl) (m_takesNumber (p := p + 2) hM hx ((ht.keepR mdR.p).keepR mdR.p) up2_s (by omega) (fun q k hn hq J2 e2 e3 f2 => ⟨rfl, rfl, ?_⟩) (fun hn => ⟨rfl, rfl, ?_⟩))
      · skip
        have hsg : 60 ≤ nxX t (p + 1) ∧ nxX t (p + 1) ≤ 62 := h2
        have hk1 := (numF_p hn).2
        refine x_if_ne_t (pc := 58) (tgt := 63) dX10_takesTest_58 (by decide) (by decide) ?_
        refine x_aload_n (pc := 63) dX10_takesTest_63 rfl rfl ?_
        rw [nM_sv h2]
        refine x_sipush (pc := 64) (v := 1000) dX10_takesTest_64 (by decide) ?_
        refine x_iload_n (pc := 67) dX10_takesTest_67 rfl rfl ?_
        refine x_imuln (pc := 68) (a := 1000) (b := (plL (nxX t p))) dX10_takesTest_68 ?_
        refine x_bipush (pc := 69) (v := 100) dX10_takesTest_69 (by decide) ?_
        refine x_iload_n (pc := 71) dX10_takesTest_71 rfl rfl ?_
        refine x_bipush (pc := 72) (v := 60) dX10_takesTest_72 (by decide) ?_
        refine x_isubn (pc := 74) (a := (nxX t (p + 1))) (b := 60) dX10_takesTest_74 (by omega) ?_
        refine x_imuln (pc := 75) (a := 100) (b := ((nxX t (p + 1)) - 60)) dX10_takesTest_75 ?_
        refine x_iaddn (pc := 76) (a := (1000 * (plL (nxX t p)))) (b := (100 * ((nxX t (p + 1)) - 60))) dX10_takesTest_76 ?_
        refine x_aload_n (pc := 77) dX10_takesTest_77 rfl rfl ?_
        refine x_get (pc := 78) dX10_takesTest_78 kf_RX10_53 hM.s rfl ?_
        rw [e3]
        refine x_iaddn (pc := 81) (a := ((1000 * (plL (nxX t p))) + (100 * ((nxX t (p + 1)) - 60)))) (b := k) dX10_takesTest_81 ?_
        refine x_callV (pc := 82) (As := [.int _]) dX10_takesTest_82 km_X10_put kv_X10_put kl_RX10_260 hM.s rfl rfl (by decide) ⟨Nat.le_refl _, Nat.le_refl _⟩ rfl (Nat.le_of_ble_eq_true rfl) (Nat.le_of_ble_eq_true rfl) (m_put (x := nI (1000 * plL (nxX t p) + 100 * (nxX t (p + 1) - 60) + k)) hM (((hs.keepR mdR.p).keepR mdR.p).keepR f2) (by omega) (fun J3 s3 f3 g3 => ⟨rfl, rfl, ?_⟩))
        refine x_aload_n (pc := 85) dX10_takesTest_85 rfl rfl ?_
        refine x_callV (pc := 86) (As := []) dX10_takesTest_86 km_X10_whole kv_X10_whole kl_RX10_270 hM.s rfl rfl (by decide) ⟨Nat.le_refl _, Nat.le_refl _⟩ rfl (Nat.le_of_ble_eq_true rfl) (Nat.le_of_ble_eq_true rfl) (lm_whole hM S J3 _ o ((((hw.keepR mdR.p).keepR mdR.p).keepR f2).keepP f3 g3) s3 (by rw [List.length_append]; show b + (s.length + 1) + whN S ≤ 600; omega) ((g3 25 (by decide)).trans ((f2.2 25 (by decide) (by decide)).trans ((up2_k (by decide)).trans ((up2_k (by decide)).trans ho)))) hoo ho2 (fun J4 w4 s4 o4 f4 => ⟨rfl, rfl, ?_⟩))
        refine x_iconst (pc := 89) (v := 1) dX10_takesTest_89 (by decide) ?_
        refine x_ireturn (pc := 90) dX10_takesTest_90 ⟨_, rfl, by decide⟩ ⟨Nat.le_refl _, Nat.le_refl _⟩ ?_
        exact K1 q _ J4 (tst_s h1 h2 hn) hq (((f4.2 13 (by decide) (by decide) (by decide)).trans (g3 13 (by decide))).trans e2) w4 s4 o4 (((mdR.p.tr (mdR.p.tr f2)).x.tr ⟨fun a p1 p2 _ => f3 a p1 p2, fun k _ _ p1 _ _ => g3 k p1⟩).tr f4.x)
      · skip
        refine x_if_ne_f (pc := 58) (tgt := 63) dX10_takesTest_58 (by decide) (by decide) ?_
        refine x_iconst (pc := 61) (v := 0) dX10_takesTest_61 (by decide) ?_
        refine x_ireturn (pc := 62) dX10_takesTest_62 ⟨_, rfl, by decide⟩ ⟨Nat.le_refl _, Nat.le_refl _⟩ ?_
        exact K0 (p + 2) _ (tst_n2 h1 h2 hn) (by omega) up2_s ((hs.keepR mdR.p).keepR mdR.p) (mdR.p.tr mdR.p).x
    · skip
      have h2 := (nM_sg (nxX_257 hx (p + 1))).mp g1
      refine x_if_ne_f (pc := 39) (tgt := 44) dX10_takesTest_39 (by decide) (by decide) ?_
      refine x_iconst (pc := 42) (v := 0) dX10_takesTest_42 (by decide) ?_
      refine x_ireturn (pc := 43) dX10_takesTest_43 ⟨_, rfl, by decide⟩ ⟨Nat.le_refl _, Nat.le_refl _⟩ ?_
      exact K0 (p + 1) _ (tst_n1 h1 h2) (by omega) up2_s (hs.keepR mdR.p) mdR.p.x
  · skip
    refine x_istore_n (pc := 8) (lv' := [(0, .ref M), (1, .int (-1))]) dX10_takesTest_8 rfl (by decide) rfl ?_
    refine x_iload_n (pc := 9) dX10_takesTest_9 rfl rfl ?_
    refine x_if_ge_f (pc := 10) (tgt := 15) dX10_takesTest_10 (by decide) (by decide) ?_
    refine x_iconst (pc := 13) (v := 0) dX10_takesTest_13 (by decide) ?_
    refine x_ireturn (pc := 14) dX10_takesTest_14 ⟨_, rfl, by decide⟩ ⟨Nat.le_refl _, Nat.le_refl _⟩ ?_
    exact K0 p I (tst_n0 h1) hp2 hp hs mdX.rf

