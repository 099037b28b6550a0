/-! ===== the text: the reference reads an E ===== -/
theorem WTS.push {I J : xI} {M c : Nat} {S : List Nat} (h : WTS I M S) (hl : S.length + 1 ≤ 100) (hc : c < 128) (e : J M 24 = nI (S.length + 1)) (f1 : J (M + 14) S.length = nI c) (f2 : ∀ i, i < S.length → J (M + 14) i = I (M + 14) i) : WTS J M (c :: S) := by
  refine ⟨e, hl, fun i x hi => ?_⟩
  cases i with
  | zero =>
    cases hi
    exact ⟨hc, f1⟩
  | succ i =>
    have hi : S[i]? = some x := hi
    have hlt := (List.getElem?_eq_some_iff.mp hi).1
    have g := h.2.2 i x hi
    refine ⟨g.1, ?_⟩
    have e2 : (c :: S).length - 1 - (i + 1) = S.length - 1 - i := by
      show S.length + 1 - 1 - (i + 1) = _
      omega
    rw [e2, f2 _ (by omega)]
    exact g.2
theorem WTS.nil {J : xI} {M : Nat} (e : J M 24 = 0) : WTS J M [] := ⟨e, by decide, fun i x hi => by cases hi⟩
/-- frame of E: rows to (at c), sign, waits -/
def mdZ (M c : Nat) (I J : xI) : Prop := (∀ a, a ≠ M → a ≠ M + 12 → a ≠ M + 13 → a ≠ M + 14 → J a = I a) ∧ (∀ k, k ≠ 13 → k ≠ 14 → k ≠ 23 → k ≠ 24 → k ≠ 25 → J M k = I M k) ∧ ∀ i, i ≠ c → J (M + 12) i = I (M + 12) i
theorem mdZ.rf {M c : Nat} {I : xI} : mdZ M c I I := ⟨fun _ _ _ _ _ => rfl, fun _ _ _ _ _ _ => rfl, fun _ _ => rfl⟩
theorem mdZ.tr {M c : Nat} {I J J' : xI} (h : mdZ M c I J) (h' : mdZ M c J J') : mdZ M c I J' := ⟨fun a p q r s => (h'.1 a p q r s).trans (h.1 a p q r s), fun k p q r s t => (h'.2.1 k p q r s t).trans (h.2.1 k p q r s t), fun i p => (h'.2.2 i p).trans (h.2.2 i p)⟩
theorem mdX.e {M c : Nat} {I J : xI} (h : mdX M I J) : mdZ M c I J := ⟨fun a p _ q r => h.1 a p q r, h.2, fun i _ => congrFun (h.1 (M + 12) (by omega) (by omega) (by omega)) i⟩
theorem mTxt.keepZ {M c : Nat} {I J : xI} {t : xX} (h : mTxt I M t) (f : mdZ M c I J) : mTxt J M t := ⟨(f.2.1 12 (by decide) (by decide) (by decide) (by decide) (by decide)).trans h.1, fun i hi => (congrFun (f.1 (M + 7) (by omega) (by omega) (by omega) (by omega)) i).trans (h.2 i hi)⟩
theorem mdZ.fld {M c k : Nat} {x : Int32} {I : xI} (h : k = 13 ∨ k = 14 ∨ k = 23 ∨ k = 24 ∨ k = 25) : mdZ M c I (up2 I M k x) := ⟨fun a p _ _ _ => up2_row p, fun j p q r s t => up2_k (by omega), fun i _ => congrFun (up2_row (by omega)) i⟩
theorem mdZ.wts {M c k : Nat} {x : Int32} {I : xI} : mdZ M c I (up2 I (M + 14) k x) := ⟨fun a _ _ _ p => up2_row p, fun j _ _ _ _ _ => congrFun (up2_row (by omega)) j, fun i _ => congrFun (up2_row (by omega)) i⟩
theorem mdZ.to {M c : Nat} {x : Int32} {I : xI} : mdZ M c I (up2 I (M + 12) c x) := ⟨fun a _ p _ _ => up2_row p, fun j _ _ _ _ _ => congrFun (up2_row (by omega)) j, fun i p => up2_k p⟩
section USTEP
variable {nx : Nat → Nat} {p q o c : Nat} {S S' : List Nat} {s : List Int32} {r : xCQ (List Int32)} {e : xCE}
theorem u_push (h : nx p = 33 ∨ nx p = 40) (ho : o < 4) : uStep nx (p, true, S, o, s) = .inl (p + 1, true, nx p :: S, o + 1, s) := by
  show (if true = true then (if nx p = 33 ∨ nx p = 40 then (if o = 4 then _ else _) else _) else _) = _
  rw [if_pos rfl, if_pos h, if_neg (by omega)]
theorem u_full (h : nx p = 33 ∨ nx p = 40) : uStep nx (p, true, S, 4, s) = .inr (p, none) := by
  show (if true = true then (if nx p = 33 ∨ nx p = 40 then (if 4 = 4 then _ else _) else _) else _) = _
  rw [if_pos rfl, if_pos h, if_pos rfl]
theorem u_test (h : ¬ (nx p = 33 ∨ nx p = 40)) (ht : tstF nx p = (q, some e)) : uStep nx (p, true, S, o, s) = .inl (q, false, S.drop (whN S), o - whN S, s ++ e.2.1 ++ List.replicate (whN S) (-33)) := by
  unfold uStep
  rw [if_pos rfl, if_neg (show ¬ (nx p = 33 ∨ nx p = 40) from h), show tstF nx (p, true, S, o, s).1 = (q, some e) from ht]
theorem u_tbad (h : ¬ (nx p = 33 ∨ nx p = 40)) (ht : tstF nx p = (q, none)) : uStep nx (p, true, S, o, s) = .inr (q, none) := by
  unfold uStep
  rw [if_pos rfl, if_neg (show ¬ (nx p = 33 ∨ nx p = 40) from h), show tstF nx (p, true, S, o, s).1 = (q, none) from ht]
theorem u_op (h : nx p = 38 ∨ nx p = 124) : uStep nx (p, false, S, o, s) = .inl (p + 1, true, nx p :: S.drop (seN (nx p) S), o, s ++ emS (nx p) S) := by
  unfold uStep
  rw [if_neg (show ¬ false = true by decide), if_pos (show nx p = 38 ∨ nx p = 124 from h)]
theorem u_done (h : ¬ (nx p = 38 ∨ nx p = 124)) (hd : S.drop (seN 124 S) = []) : uStep nx (p, false, S, o, s) = .inr (p, some (s ++ emS 124 S)) := by
  unfold uStep
  rw [if_neg (show ¬ false = true by decide), if_neg (show ¬ (nx p = 38 ∨ nx p = 124) from h), show (p, false, S, o, s).2.2.1.drop (seN 124 (p, false, S, o, s).2.2.1) = [] from hd]
theorem u_stop (h : ¬ (nx p = 38 ∨ nx p = 124)) (hd : S.drop (seN 124 S) = c :: S') (hn : nx p ≠ 41) : uStep nx (p, false, S, o, s) = .inr (p, none) := by
  unfold uStep
  rw [if_neg (show ¬ false = true by decide), if_neg (show ¬ (nx p = 38 ∨ nx p = 124) from h), show (p, false, S, o, s).2.2.1.drop (seN 124 (p, false, S, o, s).2.2.1) = c :: S' from hd]
  exact if_neg hn
theorem u_close (h : ¬ (nx p = 38 ∨ nx p = 124)) (hd : S.drop (seN 124 S) = c :: S') (hn : nx p = 41) : uStep nx (p, false, S, o, s) = .inl (p + 1, false, S'.drop (whN S'), o - 1 - whN S', s ++ emS 124 S ++ List.replicate (whN S') (-33)) := by
  unfold uStep
  rw [if_neg (show ¬ false = true by decide), if_neg (show ¬ (nx p = 38 ∨ nx p = 124) from h), show (p, false, S, o, s).2.2.1.drop (seN 124 (p, false, S, o, s).2.2.1) = c :: S' from hd]
  exact if_pos hn
theorem uR_l {m : Nat} {u u' : xCU} (e : uStep nx u = .inl u') (h : uRun nx (m + 1) u r) : uRun nx m u' r := by
  have h : (match uStep nx u with | .inr r' => r' = r | .inl u' => uRun nx m u' r) := h
  rw [e] at h
  exact h
theorem uR_r {m : Nat} {u : xCU} {r' : xCQ (List Int32)} (e : uStep nx u = .inr r') (h : uRun nx (m + 1) u r) : r' = r := by
  have h : (match uStep nx u with | .inr r' => r' = r | .inl u' => uRun nx m u' r) := h
  rw [e] at h
  exact h
end USTEP

set_option maxHeartbeats 4000000 in
set_option maxRecDepth 100000 in
theorem lm_eT {T : xT} {n : Nat} {sh : Nat → Nat × Nat} {I : xI} {R : xR} {L : xL} {P : xPost} {M : Nat} (hM : xModel sh R M) {t : xX} (hx : XOK t) (ht : mTxt I M t) {p b o c : Nat} (hc : c < 48) (hp : I M 13 = nI p) (hp2 : p ≤ t.1) {S : List Nat} {s : List Int32} (hw : WTS I M S) (hs : SGS I M b s) (hk : WOK S) (hop : o = opN S) (ho4 : o ≤ 4) (ho : I M 25 = nI o) (hSp : S.length ≤ p) (hb6 : p < t.1 → b + s.length + 1 + whN S ≤ 600) (KP : (nxX t p = 33 ∨ nxX t p = 40) → o < 4 → p < t.1 → ∀ J : xI, J M 13 = nI (p + 1) → WTS J M (nxX t p :: S) → SGS J M b s → J M 25 = nI (o + 1) → mdZ M c I J → X T zX10_takesE 4 0 0 P 22 [(0, .ref M), (1, .int (nI c)), (2, .int 1)] [] (n, sh, 0, 0) J R L) (KF : (nxX t p = 33 ∨ nxX t p = 40) → o = 4 → P (n, sh, 0, 0) I R L (some (.int 0))) (KT : ¬ (nxX t p = 33 ∨ nxX t p = 40) → ∀ (q : Nat) (e : xCE) (J : xI), tstF (nxX t) p = (q, some e) → q ≤ t.1 → J M 13 = nI q → WTS J M (S.drop (whN S)) → SGS J M b (s ++ e.2.1 ++ List.replicate (whN S) (-33)) → J M 25 = nI (o - whN S) → mdZ M c I J → X T zX10_takesE 4 0 0 P 22 [(0, .ref M), (1, .int (nI c)), (2, .int 0)] [] (n, sh, 0, 0) J R L) (KB : ¬ (nxX t p = 33 ∨ nxX t p = 40) → ∀ (q : Nat) (J : xI), tstF (nxX t) p = (q, none) → q ≤ t.1 → J M 13 = nI q → SGS J M b s → mdZ M c I J → P (n, sh, 0, 0) J R L (some (.int 0)))  :  X T zX10_takesE 4 0 0 P 22 [(0, .ref M), (1, .int (nI c)), (2, .int 1)] [] (n, sh, 0, 0) (I) R L := by
  have x100 := hx.1
  have hw2 : S.length ≤ 100 := hw.2.1
  refine x_aload_n (pc := 22) dX10_takesE_22 rfl rfl ?_
  refine x_callV (pc := 23) (As := []) dX10_takesE_23 km_X10_next kv_X10_next kl_RX10_249 hM.s rfl rfl (by decide) ⟨Nat.le_refl _, Nat.le_refl _⟩ rfl (Nat.le_of_ble_eq_true rfl) (Nat.le_of_ble_eq_true rfl) (m_next hM hx ht hp hp2 (⟨rfl, rfl, ?_⟩))
  refine x_istore_n (pc := 26) (lv' := [(0, .ref M), (1, .int (nI c)), (2, .int 1), (3, .int (nM (nxX t p)))]) dX10_takesE_26 rfl (by decide) rfl ?_
  refine x_iload_n (pc := 27) dX10_takesE_27 rfl rfl ?_
  refine x_if_eq_f (pc := 28) (tgt := 110) dX10_takesE_28 (by decide) (by decide) ?_
  refine x_iload_n (pc := 31) dX10_takesE_31 rfl rfl ?_
  refine x_bipush (pc := 32) (v := 33) dX10_takesE_32 (by decide) ?_
  refine x_icmp_eq (pc := 34) (tgt := 43) dX10_takesE_34 (by decide) (fun c34 => ?_) (fun c34 => ?_)
  · skip
    have hb : nxX t p = 33 ∨ nxX t p = 40 := by
      first
      | exact Or.inl ((nM_eq (nxX_257 hx p) (show 33 < 128 by decide)).mp c34)
      | exact Or.inr ((nM_eq (nxX_257 hx p) (show 40 < 128 by decide)).mp c40)
    have hl : p < t.1 := hb.elim (fun z => nxX_lt z (by decide)) (fun z => nxX_lt z (by decide))
    rw [show nM (nxX t p) = nI (nxX t p) from nM_lit (by omega)]
    refine x_aload_n (pc := 43) dX10_takesE_43 rfl rfl ?_
    refine x_get (pc := 44) dX10_takesE_44 kf_RX10_86 hM.s rfl ?_
    rw [ho]
    refine x_iconst (pc := 47) (v := 4) dX10_takesE_47 (by decide) ?_
    refine x_icmpn_ne (pc := 48) (tgt := 53) (a := o) (b := 4) dX10_takesE_48 (by decide) (by omega) (by decide) (fun c48 => ?_) (fun c48 => ?_)
    · skip
      refine x_aload_n (pc := 53) dX10_takesE_53 rfl rfl ?_
      refine x_dup (pc := 54) dX10_takesE_54 rfl ?_
      refine x_get (pc := 55) dX10_takesE_55 kf_RX10_86 hM.s rfl ?_
      rw [ho]
      refine x_iconst (pc := 58) (v := 1) dX10_takesE_58 (by decide) ?_
      refine x_iaddn (pc := 59) (a := o) (b := 1) dX10_takesE_59 ?_
      refine x_put (pc := 60) dX10_takesE_60 kf_RX10_86 hM.s rfl (Or.inl kb_10_25) ?_
      refine x_aload_n (pc := 63) dX10_takesE_63 rfl rfl ?_
      refine x_getr (pc := 64) dX10_takesE_64 kf_RX10_77 hM.s rfl hM.f13 ?_
      refine x_aload_n (pc := 67) dX10_takesE_67 rfl rfl ?_
      refine x_get (pc := 68) dX10_takesE_68 kf_RX10_83 hM.s rfl ?_
      rw [show up2 I M 25 (nI (o + 1)) M 24 = nI S.length from (up2_k (by decide)).trans hw.1]
      refine x_iload_n (pc := 71) dX10_takesE_71 rfl rfl ?_
      refine x_iastn (pc := 72) (a := S.length) dX10_takesE_72 hM.s13 (by omega) (by omega) ?_
      refine x_aload_n (pc := 73) dX10_takesE_73 rfl rfl ?_
      refine x_dup (pc := 74) dX10_takesE_74 rfl ?_
      refine x_get (pc := 75) dX10_takesE_75 kf_RX10_83 hM.s rfl ?_
      rw [show up2 (up2 I M 25 (nI (o + 1))) (M + 14) S.length (nI (nxX t p)) M 24 = nI S.length from (congrFun (up2_row (by omega)) 24).trans ((up2_k (by decide)).trans hw.1)]
      refine x_iconst (pc := 78) (v := 1) dX10_takesE_78 (by decide) ?_
      refine x_iaddn (pc := 79) (a := S.length) (b := 1) dX10_takesE_79 ?_
      refine x_put (pc := 80) dX10_takesE_80 kf_RX10_83 hM.s rfl (Or.inl kb_10_24) ?_
      refine x_aload_n (pc := 83) dX10_takesE_83 rfl rfl ?_
      refine x_dup (pc := 84) dX10_takesE_84 rfl ?_
      refine x_get (pc := 85) dX10_takesE_85 kf_RX10_50 hM.s rfl ?_
      rw [show up2 (up2 (up2 I M 25 (nI (o + 1))) (M + 14) S.length (nI (nxX t p))) M 24 (nI (S.length + 1)) M 13 = nI p from (up2_k (by decide)).trans ((congrFun (up2_row (by omega)) 13).trans ((up2_k (by decide)).trans hp))]
      refine x_iconst (pc := 88) (v := 1) dX10_takesE_88 (by decide) ?_
      refine x_iaddn (pc := 89) (a := p) (b := 1) dX10_takesE_89 ?_
      refine x_put (pc := 90) dX10_takesE_90 kf_RX10_50 hM.s rfl (Or.inl kb_10_13) ?_
      refine x_goto (pc := 93) (tgt := 22) dX10_takesE_93 (by decide) ?_
      refine X.keep [0, 1, 2] rfl ?_
      exact KP hb (by omega) hl _ up2_s (hw.push (by omega) (by omega) ((up2_k (by decide)).trans up2_s) ((congrFun ((up2_row (by omega)).trans (up2_row (by omega))) _).trans up2_s) (fun i hi => (congrFun ((up2_row (by omega)).trans (up2_row (by omega))) i).trans ((up2_k (by omega)).trans (congrFun (up2_row (by omega)) i)))) (hs.keep ((up2_k (by decide)).trans ((up2_k (by decide)).trans ((congrFun (up2_row (by omega)) 23).trans (up2_k (by decide))))) ((up2_row (by omega)).trans ((up2_row (by omega)).trans ((up2_row (by omega)).trans (up2_row (by omega)))))) ((up2_k (by decide)).trans ((up2_k (by decide)).trans ((congrFun (up2_row (by omega)) 25).trans up2_s))) ((mdZ.fld (by decide)).tr (mdZ.wts.tr ((mdZ.fld (by decide)).tr (mdZ.fld (by decide)))))
    · skip
      refine x_iconst (pc := 51) (v := 0) dX10_takesE_51 (by decide) ?_
      refine x_ireturn (pc := 52) dX10_takesE_52 ⟨_, rfl, by decide⟩ ⟨Nat.le_refl _, Nat.le_refl _⟩ ?_
      exact KF hb (by omega)
  · skip
    refine x_iload_n (pc := 37) dX10_takesE_37 rfl rfl ?_
    refine x_bipush (pc := 38) (v := 40) dX10_takesE_38 (by decide) ?_
    refine x_icmp_ne (pc := 40) (tgt := 96) dX10_takesE_40 (by decide) (fun c40 => ?_) (fun c40 => ?_)
    · skip
      have hnb : ¬ (nxX t p = 33 ∨ nxX t p = 40) := fun z => z.elim (fun z => c34 ((nM_eq (nxX_257 hx p) (show 33 < 128 by decide)).mpr z)) (fun z => c40 ((nM_eq (nxX_257 hx p) (show 40 < 128 by decide)).mpr z))
      refine x_aload_n (pc := 96) dX10_takesE_96 rfl rfl ?_
      refine x_callV (pc := 97) (As := []) dX10_takesE_97 km_X10_takesTest kv_X10_takesTest kl_RX10_273 hM.s rfl rfl (by decide) ⟨Nat.le_refl _, Nat.le_refl _⟩ rfl (Nat.le_of_ble_eq_true rfl) (Nat.le_of_ble_eq_true rfl) (m_takesTest hM hx ht hp hp2 hw hs ho (by rw [hop]; exact (whN_op S).1) (by omega) hb6 (fun q e J1 h1 h2 h3 h4 h5 h6 f1 => ⟨rfl, rfl, ?_⟩) (fun q J1 h1 h2 h3 h4 f1 => ⟨rfl, rfl, ?_⟩))
      · skip
        refine x_if_eq_f (pc := 100) (tgt := 108) dX10_takesE_100 (by decide) (by decide) ?_
        refine x_iconst (pc := 103) (v := 0) dX10_takesE_103 (by decide) ?_
        refine x_istore_n (pc := 104) (lv' := [(0, .ref M), (1, .int (nI c)), (2, .int 0), (3, .int (nM (nxX t p)))]) dX10_takesE_104 rfl (by decide) rfl ?_
        refine x_goto (pc := 105) (tgt := 22) dX10_takesE_105 (by decide) ?_
        refine X.keep [0, 1, 2] rfl ?_
        exact KT hnb q e J1 h1 h2 h3 h4 h5 h6 f1.e
      · skip
        refine x_if_eq_t (pc := 100) (tgt := 108) dX10_takesE_100 (by decide) (by decide) ?_
        refine x_iconst (pc := 108) (v := 0) dX10_takesE_108 (by decide) ?_
        refine x_ireturn (pc := 109) dX10_takesE_109 ⟨_, rfl, by decide⟩ ⟨Nat.le_refl _, Nat.le_refl _⟩ ?_
        exact KB hnb q J1 h1 h2 h3 h4 f1.e
    · skip
      have hb : nxX t p = 33 ∨ nxX t p = 40 := by
        first
        | exact Or.inl ((nM_eq (nxX_257 hx p) (show 33 < 128 by decide)).mp c34)
        | exact Or.inr ((nM_eq (nxX_257 hx p) (show 40 < 128 by decide)).mp c40)
      have hl : p < t.1 := hb.elim (fun z => nxX_lt z (by decide)) (fun z => nxX_lt z (by decide))
      rw [show nM (nxX t p) = nI (nxX t p) from nM_lit (by omega)]
      refine x_aload_n (pc := 43) dX10_takesE_43 rfl rfl ?_
      refine x_get (pc := 44) dX10_takesE_44 kf_RX10_86 hM.s rfl ?_
      rw [ho]
      refine x_iconst (pc := 47) (v := 4) dX10_takesE_47 (by decide) ?_
      refine x_icmpn_ne (pc := 48) (tgt := 53) (a := o) (b := 4) dX10_takesE_48 (by decide) (by omega) (by decide) (fun c48 => ?_) (fun c48 => ?_)
      · skip
        refine x_aload_n (pc := 53) dX10_takesE_53 rfl rfl ?_
        refine x_dup (pc := 54) dX10_takesE_54 rfl ?_
        refine x_get (pc := 55) dX10_takesE_55 kf_RX10_86 hM.s rfl ?_
        rw [ho]
        refine x_iconst (pc := 58) (v := 1) dX10_takesE_58 (by decide) ?_
        refine x_iaddn (pc := 59) (a := o) (b := 1) dX10_takesE_59 ?_
        refine x_put (pc := 60) dX10_takesE_60 kf_RX10_86 hM.s rfl (Or.inl kb_10_25) ?_
        refine x_aload_n (pc := 63) dX10_takesE_63 rfl rfl ?_
        refine x_getr (pc := 64) dX10_takesE_64 kf_RX10_77 hM.s rfl hM.f13 ?_
        refine x_aload_n (pc := 67) dX10_takesE_67 rfl rfl ?_
        refine x_get (pc := 68) dX10_takesE_68 kf_RX10_83 hM.s rfl ?_
        rw [show up2 I M 25 (nI (o + 1)) M 24 = nI S.length from (up2_k (by decide)).trans hw.1]
        refine x_iload_n (pc := 71) dX10_takesE_71 rfl rfl ?_
        refine x_iastn (pc := 72) (a := S.length) dX10_takesE_72 hM.s13 (by omega) (by omega) ?_
        refine x_aload_n (pc := 73) dX10_takesE_73 rfl rfl ?_
        refine x_dup (pc := 74) dX10_takesE_74 rfl ?_
        refine x_get (pc := 75) dX10_takesE_75 kf_RX10_83 hM.s rfl ?_
        rw [show up2 (up2 I M 25 (nI (o + 1))) (M + 14) S.length (nI (nxX t p)) M 24 = nI S.length from (congrFun (up2_row (by omega)) 24).trans ((up2_k (by decide)).trans hw.1)]
        refine x_iconst (pc := 78) (v := 1) dX10_takesE_78 (by decide) ?_
        refine x_iaddn (pc := 79) (a := S.length) (b := 1) dX10_takesE_79 ?_
        refine x_put (pc := 80) dX10_takesE_80 kf_RX10_83 hM.s rfl (Or.inl kb_10_24) ?_
        refine x_aload_n (pc := 83) dX10_takesE_83 rfl rfl ?_
        refine x_dup (pc := 84) dX10_takesE_84 rfl ?_
        refine x_get (pc := 85) dX10_takesE_85 kf_RX10_50 hM.s rfl ?_
        rw [show up2 (up2 (up2 I M 25 (nI (o + 1))) (M + 14) S.length (nI (nxX t p))) M 24 (nI (S.length + 1)) M 13 = nI p from (up2_k (by decide)).trans ((congrFun (up2_row (by omega)) 13).trans ((up2_k (by decide)).trans hp))]
        refine x_iconst (pc := 88) (v := 1) dX10_takesE_88 (by decide) ?_
        refine x_iaddn (pc := 89) (a := p) (b := 1) dX10_takesE_89 ?_
        refine x_put (pc := 90) dX10_takesE_90 kf_RX10_50 hM.s rfl (Or.inl kb_10_13) ?_
        refine x_goto (pc := 93) (tgt := 22) dX10_takesE_93 (by decide) ?_
        refine X.keep [0, 1, 2] rfl ?_
        exact KP hb (by omega) hl _ up2_s (hw.push (by omega) (by omega) ((up2_k (by decide)).trans up2_s) ((congrFun ((up2_row (by omega)).trans (up2_row (by omega))) _).trans up2_s) (fun i hi => (congrFun ((up2_row (by omega)).trans (up2_row (by omega))) i).trans ((up2_k (by omega)).trans (congrFun (up2_row (by omega)) i)))) (hs.keep ((up2_k (by decide)).trans ((up2_k (by decide)).trans ((congrFun (up2_row (by omega)) 23).trans (up2_k (by decide))))) ((up2_row (by omega)).trans ((up2_row (by omega)).trans ((up2_row (by omega)).trans (up2_row (by omega)))))) ((up2_k (by decide)).trans ((up2_k (by decide)).trans ((congrFun (up2_row (by omega)) 25).trans up2_s))) ((mdZ.fld (by decide)).tr (mdZ.wts.tr ((mdZ.fld (by decide)).tr (mdZ.fld (by decide)))))
      · skip
        refine x_iconst (pc := 51) (v := 0) dX10_takesE_51 (by decide) ?_
        refine x_ireturn (pc := 52) dX10_takesE_52 ⟨_, rfl, by decide⟩ ⟨Nat.le_refl _, Nat.le_refl _⟩ ?_
        exact KF hb (by omega)

set_option maxHeartbeats 4000000 in
set_option maxRecDepth 100000 in
theorem lm_eF {T : xT} {n : Nat} {sh : Nat → Nat × Nat} {I : xI} {R : xR} {L : xL} {P : xPost} {M : Nat} (hM : xModel sh R M) {t : xX} (hx : XOK t) (ht : mTxt I M t) {p b o c : Nat} (hc : c < 48) (hp : I M 13 = nI p) (hp2 : p ≤ t.1) {S : List Nat} {s : List Int32} (hw : WTS I M S) (hs : SGS I M b s) (hk : WOK S) (hop : o = opN S) (ho4 : o ≤ 4) (ho : I M 25 = nI o) (hSp : S.length ≤ p) (hb6 : b + s.length + S.length ≤ 600) (KO : (nxX t p = 38 ∨ nxX t p = 124) → p < t.1 → ∀ J : xI, J M 13 = nI (p + 1) → WTS J M (nxX t p :: S.drop (seN (nxX t p) S)) → SGS J M b (s ++ emS (nxX t p) S) → J M 25 = nI o → mdZ M c I J → X T zX10_takesE 4 0 0 P 22 [(0, .ref M), (1, .int (nI c)), (2, .int 1)] [] (n, sh, 0, 0) J R L) (KD : ¬ (nxX t p = 38 ∨ nxX t p = 124) → S.drop (seN 124 S) = [] → ∀ J : xI, J M 13 = nI p → SGS J M b (s ++ emS 124 S) → J (M + 12) c = nI (b + (s ++ emS 124 S).length) → mdZ M c I J → P (n, sh, 0, 0) J R L (some (.int 1))) (KS : ¬ (nxX t p = 38 ∨ nxX t p = 124) → ∀ c1 S1, S.drop (seN 124 S) = c1 :: S1 → nxX t p ≠ 41 → ∀ J : xI, J M 13 = nI p → SGS J M b (s ++ emS 124 S) → mdZ M c I J → P (n, sh, 0, 0) J R L (some (.int 0))) (KC : ¬ (nxX t p = 38 ∨ nxX t p = 124) → ∀ c1 S1, S.drop (seN 124 S) = c1 :: S1 → nxX t p = 41 → p < t.1 → ∀ J : xI, J M 13 = nI (p + 1) → WTS J M (S1.drop (whN S1)) → SGS J M b (s ++ emS 124 S ++ List.replicate (whN S1) (-33)) → J M 25 = nI (o - 1 - whN S1) → mdZ M c I J → X T zX10_takesE 4 0 0 P 22 [(0, .ref M), (1, .int (nI c)), (2, .int 0)] [] (n, sh, 0, 0) J R L)  :  X T zX10_takesE 4 0 0 P 22 [(0, .ref M), (1, .int (nI c)), (2, .int 0)] [] (n, sh, 0, 0) (I) R L := by
  have x100 := hx.1
  have hw2 : S.length ≤ 100 := hw.2.1
  have hq1 := seN_le (q := nxX t p) S
  have hq2 := seN_le (q := 124) S
  have hl1 : (S.drop (seN (nxX t p) S)).length = S.length - seN (nxX t p) S := List.length_drop
  have hl2 : (S.drop (seN 124 S)).length = S.length - seN 124 S := List.length_drop
  have hl3 : (s ++ emS 124 S).length = s.length + seN 124 S := by rw [List.length_append, emS_len]
  refine x_aload_n (pc := 22) dX10_takesE_22 rfl rfl ?_
  refine x_callV (pc := 23) (As := []) dX10_takesE_23 km_X10_next kv_X10_next kl_RX10_249 hM.s rfl rfl (by decide) ⟨Nat.le_refl _, Nat.le_refl _⟩ rfl (Nat.le_of_ble_eq_true rfl) (Nat.le_of_ble_eq_true rfl) (m_next hM hx ht hp hp2 (⟨rfl, rfl, ?_⟩))
  refine x_istore_n (pc := 26) (lv' := [(0, .ref M), (1, .int (nI c)), (2, .int 0), (3, .int (nM (nxX t p)))]) dX10_takesE_26 rfl (by decide) rfl ?_
  refine x_iload_n (pc := 27) dX10_takesE_27 rfl rfl ?_
  refine x_if_eq_t (pc := 28) (tgt := 110) dX10_takesE_28 (by decide) (by decide) ?_
  refine x_iload_n (pc := 110) dX10_takesE_110 rfl rfl ?_
  refine x_bipush (pc := 111) (v := 38) dX10_takesE_111 (by decide) ?_
  refine x_icmp_eq (pc := 113) (tgt := 122) dX10_takesE_113 (by decide) (fun c113 => ?_) (fun c113 => ?_)
  · skip
    have hb : nxX t p = 38 ∨ nxX t p = 124 := by
      first
      | exact Or.inl ((nM_eq (nxX_257 hx p) (show 38 < 128 by decide)).mp c113)
      | exact Or.inr ((nM_eq (nxX_257 hx p) (show 124 < 128 by decide)).mp c119)
    have hl : p < t.1 := hb.elim (fun z => nxX_lt z (by decide)) (fun z => nxX_lt z (by decide))
    rw [show nM (nxX t p) = nI (nxX t p) from nM_lit (by omega)]
    refine x_aload_n (pc := 122) dX10_takesE_122 rfl rfl ?_
    refine x_iload_n (pc := 123) dX10_takesE_123 rfl rfl ?_
    refine x_callV (pc := 124) (As := [.int _]) dX10_takesE_124 km_X10_settle kv_X10_settle kl_RX10_276 hM.s rfl rfl (by decide) ⟨Nat.le_refl _, Nat.le_refl _⟩ rfl (Nat.le_of_ble_eq_true rfl) (Nat.le_of_ble_eq_true rfl) (lm_settle (q := nxX t p) hM (by omega) S I s hw hs (by omega) (fun J1 w1 s1 o1 f1 => ⟨rfl, rfl, ?_⟩))
    refine x_aload_n (pc := 127) dX10_takesE_127 rfl rfl ?_
    refine x_getr (pc := 128) dX10_takesE_128 kf_RX10_77 hM.s rfl hM.f13 ?_
    refine x_aload_n (pc := 131) dX10_takesE_131 rfl rfl ?_
    refine x_get (pc := 132) dX10_takesE_132 kf_RX10_83 hM.s rfl ?_
    rw [w1.1]
    refine x_iload_n (pc := 135) dX10_takesE_135 rfl rfl ?_
    refine x_iastn (pc := 136) (a := (S.drop (seN (nxX t p) S)).length) dX10_takesE_136 hM.s13 (by omega) (by omega) ?_
    refine x_aload_n (pc := 137) dX10_takesE_137 rfl rfl ?_
    refine x_dup (pc := 138) dX10_takesE_138 rfl ?_
    refine x_get (pc := 139) dX10_takesE_139 kf_RX10_83 hM.s rfl ?_
    rw [show up2 J1 (M + 14) (S.drop (seN (nxX t p) S)).length (nI (nxX t p)) M 24 = nI (S.drop (seN (nxX t p) S)).length from (congrFun (up2_row (by omega)) 24).trans w1.1]
    refine x_iconst (pc := 142) (v := 1) dX10_takesE_142 (by decide) ?_
    refine x_iaddn (pc := 143) (a := (S.drop (seN (nxX t p) S)).length) (b := 1) dX10_takesE_143 ?_
    refine x_put (pc := 144) dX10_takesE_144 kf_RX10_83 hM.s rfl (Or.inl kb_10_24) ?_
    refine x_iconst (pc := 147) (v := 1) dX10_takesE_147 (by decide) ?_
    refine x_istore_n (pc := 148) (lv' := [(0, .ref M), (1, .int (nI c)), (2, .int 1), (3, .int (nI (nxX t p)))]) dX10_takesE_148 rfl (by decide) rfl ?_
    refine x_aload_n (pc := 149) dX10_takesE_149 rfl rfl ?_
    refine x_dup (pc := 150) dX10_takesE_150 rfl ?_
    refine x_get (pc := 151) dX10_takesE_151 kf_RX10_50 hM.s rfl ?_
    rw [show up2 (up2 J1 (M + 14) (S.drop (seN (nxX t p) S)).length (nI (nxX t p))) M 24 (nI ((S.drop (seN (nxX t p) S)).length + 1)) M 13 = nI p from (up2_k (by decide)).trans ((congrFun (up2_row (by omega)) 13).trans ((f1.2 13 (by decide) (by decide) (by decide)).trans hp))]
    refine x_iconst (pc := 154) (v := 1) dX10_takesE_154 (by decide) ?_
    refine x_iaddn (pc := 155) (a := p) (b := 1) dX10_takesE_155 ?_
    refine x_put (pc := 156) dX10_takesE_156 kf_RX10_50 hM.s rfl (Or.inl kb_10_13) ?_
    refine x_goto (pc := 159) (tgt := 22) dX10_takesE_159 (by decide) ?_
    refine X.keep [0, 1, 2] rfl ?_
    exact KO hb hl _ up2_s (w1.push (by omega) (by omega) ((up2_k (by decide)).trans up2_s) ((congrFun ((up2_row (by omega)).trans (up2_row (by omega))) _).trans up2_s) (fun i hi => (congrFun ((up2_row (by omega)).trans (up2_row (by omega))) i).trans (up2_k (by omega)))) (s1.keep ((up2_k (by decide)).trans ((up2_k (by decide)).trans (congrFun (up2_row (by omega)) 23))) ((up2_row (by omega)).trans ((up2_row (by omega)).trans (up2_row (by omega))))) ((up2_k (by decide)).trans ((up2_k (by decide)).trans ((congrFun (up2_row (by omega)) 25).trans (o1.trans ho)))) (f1.x.e.tr (mdZ.wts.tr ((mdZ.fld (by decide)).tr (mdZ.fld (by decide)))))
  · skip
    refine x_iload_n (pc := 116) dX10_takesE_116 rfl rfl ?_
    refine x_bipush (pc := 117) (v := 124) dX10_takesE_117 (by decide) ?_
    refine x_icmp_ne (pc := 119) (tgt := 162) dX10_takesE_119 (by decide) (fun c119 => ?_) (fun c119 => ?_)
    · skip
      have hnb : ¬ (nxX t p = 38 ∨ nxX t p = 124) := fun z => z.elim (fun z => c113 ((nM_eq (nxX_257 hx p) (show 38 < 128 by decide)).mpr z)) (fun z => c119 ((nM_eq (nxX_257 hx p) (show 124 < 128 by decide)).mpr z))
      refine x_aload_n (pc := 162) dX10_takesE_162 rfl rfl ?_
      refine x_bipush (pc := 163) (v := 124) dX10_takesE_163 (by decide) ?_
      refine x_callV (pc := 165) (As := [.int _]) dX10_takesE_165 km_X10_settle kv_X10_settle kl_RX10_276 hM.s rfl rfl (by decide) ⟨Nat.le_refl _, Nat.le_refl _⟩ rfl (Nat.le_of_ble_eq_true rfl) (Nat.le_of_ble_eq_true rfl) (lm_settle (q := 124) hM (by decide) S I s hw hs (by omega) (fun J1 w1 s1 o1 f1 => ⟨rfl, rfl, ?_⟩))
      have s2 : SGS (up2 J1 (M + 12) c (nI (b + (s ++ emS 124 S).length))) M b (s ++ emS 124 S) := s1.keep (congrFun (up2_row (by omega)) 23) (up2_row (by omega))
      refine x_aload_n (pc := 168) dX10_takesE_168 rfl rfl ?_
      refine x_getr (pc := 169) dX10_takesE_169 kf_RX10_71 hM.s rfl hM.f11 ?_
      refine x_iload_n (pc := 172) dX10_takesE_172 rfl rfl ?_
      refine x_aload_n (pc := 173) dX10_takesE_173 rfl rfl ?_
      refine x_get (pc := 174) dX10_takesE_174 kf_RX10_80 hM.s rfl ?_
      rw [s1.1]
      refine x_iastn (pc := 177) (a := c) dX10_takesE_177 hM.s11 (by omega) (by omega) ?_
      refine x_aload_n (pc := 178) dX10_takesE_178 rfl rfl ?_
      refine x_get (pc := 179) dX10_takesE_179 kf_RX10_83 hM.s rfl ?_
      rw [show up2 J1 (M + 12) c (nI (b + (s ++ emS 124 S).length)) M 24 = nI (S.drop (seN 124 S)).length from (congrFun (up2_row (by omega)) 24).trans w1.1]
      refine x_ifn_ne (pc := 182) (tgt := 187) (a := (S.drop (seN 124 S)).length) dX10_takesE_182 (by decide) (by omega) (fun c182 => ?_) (fun c182 => ?_)
      · skip
        obtain ⟨c1, S1, hd⟩ := List.exists_cons_of_ne_nil (l := S.drop (seN 124 S)) (fun z => c182 (by rw [z]; rfl))
        rw [hd] at w1
        have hc1 := seN_top hk hd
        have hS1 : S1.length + 1 = S.length - seN 124 S := by
          rw [← hl2, hd]
          rfl
        have hop1 : opN S = 1 + opN S1 := by
          rw [← seN_op (q := 124) S, hd]
          show (if c1 = 33 ∨ c1 = 40 then 1 else 0) + opN S1 = _
          rw [if_pos hc1]
        have hwl := whN_le S1
        refine x_iload_n (pc := 187) dX10_takesE_187 rfl rfl ?_
        refine x_bipush (pc := 188) (v := 41) dX10_takesE_188 (by decide) ?_
        refine x_icmp_eq (pc := 190) (tgt := 195) dX10_takesE_190 (by decide) (fun c190 => ?_) (fun c190 => ?_)
        · skip
          have z41 : nxX t p = 41 := (nM_eq (nxX_257 hx p) (show 41 < 128 by decide)).mp c190
          have hl : p < t.1 := nxX_lt z41 (by decide)
          refine x_aload_n (pc := 195) dX10_takesE_195 rfl rfl ?_
          refine x_dup (pc := 196) dX10_takesE_196 rfl ?_
          refine x_get (pc := 197) dX10_takesE_197 kf_RX10_83 hM.s rfl ?_
          rw [show up2 J1 (M + 12) c (nI (b + (s ++ emS 124 S).length)) M 24 = nI (S1.length + 1) from (congrFun (up2_row (by omega)) 24).trans w1.1]
          refine x_iconst (pc := 200) (v := 1) dX10_takesE_200 (by decide) ?_
          refine x_isub (pc := 201) dX10_takesE_201 ?_
          rw [nI_dec (by omega)]
          refine x_put (pc := 202) dX10_takesE_202 kf_RX10_83 hM.s rfl (Or.inl kb_10_24) ?_
          refine x_aload_n (pc := 205) dX10_takesE_205 rfl rfl ?_
          refine x_dup (pc := 206) dX10_takesE_206 rfl ?_
          refine x_get (pc := 207) dX10_takesE_207 kf_RX10_86 hM.s rfl ?_
          rw [show up2 (up2 J1 (M + 12) c (nI (b + (s ++ emS 124 S).length))) M 24 (nI S1.length) M 25 = nI (opN S1 + 1) from (up2_k (by decide)).trans ((congrFun (up2_row (by omega)) 25).trans (o1.trans (ho.trans (by rw [show o = opN S1 + 1 by omega]))))]
          refine x_iconst (pc := 210) (v := 1) dX10_takesE_210 (by decide) ?_
          refine x_isub (pc := 211) dX10_takesE_211 ?_
          rw [nI_dec (by omega)]
          refine x_put (pc := 212) dX10_takesE_212 kf_RX10_86 hM.s rfl (Or.inl kb_10_25) ?_
          refine x_aload_n (pc := 215) dX10_takesE_215 rfl rfl ?_
          refine x_dup (pc := 216) dX10_takesE_216 rfl ?_
          refine x_get (pc := 217) dX10_takesE_217 kf_RX10_50 hM.s rfl ?_
          rw [show up2 (up2 (up2 J1 (M + 12) c (nI (b + (s ++ emS 124 S).length))) M 24 (nI S1.length)) M 25 (nI (opN S1)) M 13 = nI p from (up2_k (by decide)).trans ((up2_k (by decide)).trans ((congrFun (up2_row (by omega)) 13).trans ((f1.2 13 (by decide) (by decide) (by decide)).trans hp)))]
          refine x_iconst (pc := 220) (v := 1) dX10_takesE_220 (by decide) ?_
          refine x_iaddn (pc := 221) (a := p) (b := 1) dX10_takesE_221 ?_
          refine x_put (pc := 222) dX10_takesE_222 kf_RX10_50 hM.s rfl (Or.inl kb_10_13) ?_
          have w3 : WTS (up2 (up2 (up2 (up2 J1 (M + 12) c (nI (b + (s ++ emS 124 S).length))) M 24 (nI S1.length)) M 25 (nI (opN S1))) M 13 (nI (p + 1))) M S1 := w1.pop ((up2_k (by decide)).trans ((up2_k (by decide)).trans up2_s)) ((up2_row (by omega)).trans ((up2_row (by omega)).trans ((up2_row (by omega)).trans (up2_row (by omega)))))
          refine x_aload_n (pc := 225) dX10_takesE_225 rfl rfl ?_
          refine x_callV (pc := 226) (As := []) dX10_takesE_226 km_X10_whole kv_X10_whole kl_RX10_270 hM.s rfl rfl (by decide) ⟨Nat.le_refl _, Nat.le_refl _⟩ rfl (Nat.le_of_ble_eq_true rfl) (Nat.le_of_ble_eq_true rfl) (lm_whole hM S1 _ (s ++ emS 124 S) (opN S1) w3 (s2.keep ((up2_k (by decide)).trans ((up2_k (by decide)).trans (up2_k (by decide)))) ((up2_row (by omega)).trans ((up2_row (by omega)).trans (up2_row (by omega))))) (by omega) ((up2_k (by decide)).trans up2_s) (whN_op S1).1 (by omega) (fun J4 w4 s4 o4 f4 => ⟨rfl, rfl, ?_⟩))
          refine x_goto (pc := 229) (tgt := 22) dX10_takesE_229 (by decide) ?_
          refine X.keep [0, 1, 2] rfl ?_
          exact KC hnb c1 S1 hd z41 hl _ ((f4.2 13 (by decide) (by decide) (by decide)).trans up2_s) w4 s4 (by rw [o4, show o - 1 - whN S1 = opN S1 - whN S1 by omega]) (f1.x.e.tr (mdZ.to.tr ((mdZ.fld (by decide)).tr ((mdZ.fld (by decide)).tr ((mdZ.fld (by decide)).tr f4.x.e)))))
        · skip
          refine x_iconst (pc := 193) (v := 0) dX10_takesE_193 (by decide) ?_
          refine x_ireturn (pc := 194) dX10_takesE_194 ⟨_, rfl, by decide⟩ ⟨Nat.le_refl _, Nat.le_refl _⟩ ?_
          exact KS hnb c1 S1 hd (fun z => c190 ((nM_eq (nxX_257 hx p) (show 41 < 128 by decide)).mpr z)) _ ((congrFun (up2_row (by omega)) 13).trans ((f1.2 13 (by decide) (by decide) (by decide)).trans hp)) s2 (f1.x.e.tr mdZ.to)
      · skip
        refine x_iconst (pc := 185) (v := 1) dX10_takesE_185 (by decide) ?_
        refine x_ireturn (pc := 186) dX10_takesE_186 ⟨_, rfl, by decide⟩ ⟨Nat.le_refl _, Nat.le_refl _⟩ ?_
        exact KD hnb (List.length_eq_zero_iff.mp (by omega)) _ ((congrFun (up2_row (by omega)) 13).trans ((f1.2 13 (by decide) (by decide) (by decide)).trans hp)) s2 up2_s (f1.x.e.tr mdZ.to)
    · skip
      have hb : nxX t p = 38 ∨ nxX t p = 124 := by
        first
        | exact Or.inl ((nM_eq (nxX_257 hx p) (show 38 < 128 by decide)).mp c113)
        | exact Or.inr ((nM_eq (nxX_257 hx p) (show 124 < 128 by decide)).mp c119)
      have hl : p < t.1 := hb.elim (fun z => nxX_lt z (by decide)) (fun z => nxX_lt z (by decide))
      rw [show nM (nxX t p) = nI (nxX t p) from nM_lit (by omega)]
      refine x_aload_n (pc := 122) dX10_takesE_122 rfl rfl ?_
      refine x_iload_n (pc := 123) dX10_takesE_123 rfl rfl ?_
      refine x_callV (pc := 124) (As := [.int _]) dX10_takesE_124 km_X10_settle kv_X10_settle kl_RX10_276 hM.s rfl rfl (by decide) ⟨Nat.le_refl _, Nat.le_refl _⟩ rfl (Nat.le_of_ble_eq_true rfl) (Nat.le_of_ble_eq_true rfl) (lm_settle (q := nxX t p) hM (by omega) S I s hw hs (by omega) (fun J1 w1 s1 o1 f1 => ⟨rfl, rfl, ?_⟩))
      refine x_aload_n (pc := 127) dX10_takesE_127 rfl rfl ?_
      refine x_getr (pc := 128) dX10_takesE_128 kf_RX10_77 hM.s rfl hM.f13 ?_
      refine x_aload_n (pc := 131) dX10_takesE_131 rfl rfl ?_
      refine x_get (pc := 132) dX10_takesE_132 kf_RX10_83 hM.s rfl ?_
      rw [w1.1]
      refine x_iload_n (pc := 135) dX10_takesE_135 rfl rfl ?_
      refine x_iastn (pc := 136) (a := (S.drop (seN (nxX t p) S)).length) dX10_takesE_136 hM.s13 (by omega) (by omega) ?_
      refine x_aload_n (pc := 137) dX10_takesE_137 rfl rfl ?_
      refine x_dup (pc := 138) dX10_takesE_138 rfl ?_
      refine x_get (pc := 139) dX10_takesE_139 kf_RX10_83 hM.s rfl ?_
      rw [show up2 J1 (M + 14) (S.drop (seN (nxX t p) S)).length (nI (nxX t p)) M 24 = nI (S.drop (seN (nxX t p) S)).length from (congrFun (up2_row (by omega)) 24).trans w1.1]
      refine x_iconst (pc := 142) (v := 1) dX10_takesE_142 (by decide) ?_
      refine x_iaddn (pc := 143) (a := (S.drop (seN (nxX t p) S)).length) (b := 1) dX10_takesE_143 ?_
      refine x_put (pc := 144) dX10_takesE_144 kf_RX10_83 hM.s rfl (Or.inl kb_10_24) ?_
      refine x_iconst (pc := 147) (v := 1) dX10_takesE_147 (by decide) ?_
      refine x_istore_n (pc := 148) (lv' := [(0, .ref M), (1, .int (nI c)), (2, .int 1), (3, .int (nI (nxX t p)))]) dX10_takesE_148 rfl (by decide) rfl ?_
      refine x_aload_n (pc := 149) dX10_takesE_149 rfl rfl ?_
      refine x_dup (pc := 150) dX10_takesE_150 rfl ?_
      refine x_get (pc := 151) dX10_takesE_151 kf_RX10_50 hM.s rfl ?_
      rw [show up2 (up2 J1 (M + 14) (S.drop (seN (nxX t p) S)).length (nI (nxX t p))) M 24 (nI ((S.drop (seN (nxX t p) S)).length + 1)) M 13 = nI p from (up2_k (by decide)).trans ((congrFun (up2_row (by omega)) 13).trans ((f1.2 13 (by decide) (by decide) (by decide)).trans hp))]
      refine x_iconst (pc := 154) (v := 1) dX10_takesE_154 (by decide) ?_
      refine x_iaddn (pc := 155) (a := p) (b := 1) dX10_takesE_155 ?_
      refine x_put (pc := 156) dX10_takesE_156 kf_RX10_50 hM.s rfl (Or.inl kb_10_13) ?_
      refine x_goto (pc := 159) (tgt := 22) dX10_takesE_159 (by decide) ?_
      refine X.keep [0, 1, 2] rfl ?_
      exact KO hb hl _ up2_s (w1.push (by omega) (by omega) ((up2_k (by decide)).trans up2_s) ((congrFun ((up2_row (by omega)).trans (up2_row (by omega))) _).trans up2_s) (fun i hi => (congrFun ((up2_row (by omega)).trans (up2_row (by omega))) i).trans (up2_k (by omega)))) (s1.keep ((up2_k (by decide)).trans ((up2_k (by decide)).trans (congrFun (up2_row (by omega)) 23))) ((up2_row (by omega)).trans ((up2_row (by omega)).trans (up2_row (by omega))))) ((up2_k (by decide)).trans ((up2_k (by decide)).trans ((congrFun (up2_row (by omega)) 25).trans (o1.trans ho)))) (f1.x.e.tr (mdZ.wts.tr ((mdZ.fld (by decide)).tr (mdZ.fld (by decide)))))

set_option maxHeartbeats 4000000 in
set_option maxRecDepth 100000 in
theorem lm_takesE {T : xT} {n : Nat} {sh : Nat → Nat × Nat} {R : xR} {L : xL} {P : xPost} {I0 : xI} {M : Nat} (hM : xModel sh R M) {t : xX} (hx : XOK t) (ht : mTxt I0 M t) {b c B0 : Nat} (hc : c < 48) (hB : B0 + 100 ≤ 600) {s0 : List Int32} {r : xCQ (List Int32)} (K1 : ∀ (q : Nat) (sg : List Int32) (J : xI), r = (q, some sg) → q ≤ t.1 → J M 13 = nI q → SGS J M b sg → J (M + 12) c = nI (b + sg.length) → mdZ M c I0 J → P (n, sh, 0, 0) J R L (some (.int 1))) (K0 : ∀ (q : Nat) (s2 : List Int32) (J : xI), r = (q, none) → q ≤ t.1 → J M 13 = nI q → SGS J M b (s0 ++ s2) → mdZ M c I0 J → P (n, sh, 0, 0) J R L (some (.int 0))) : ∀ (m p : Nat) (w : Bool) (S : List Nat) (o : Nat) (s : List Int32) (J : xI), uRun (nxX t) m (p, w, S, o, s) r → J M 13 = nI p → p ≤ t.1 → WTS J M S → SGS J M b s → WOK S → o = opN S → o ≤ 4 → J M 25 = nI o → S.length ≤ p → (∃ s1, s = s0 ++ s1) → b + s.length + S.length ≤ B0 + p → mdZ M c I0 J → X T zX10_takesE 4 0 0 P 22 [(0, .ref M), (1, .int (nI c)), (2, .int (if w = true then 1 else 0))] [] (n, sh, 0, 0) J R L := by
  have x100 := hx.1
  intro m
  induction m with
  | zero => exact fun p w S o s J h => h.elim
  | succ m ih =>
    intro p w S o s J hr hp hp2 hw hs hk hop ho4 ho hSp hs0 hcn hf
    have hwl := whN_le S
    obtain ⟨s1, rfl⟩ := hs0
    cases w with
    | true =>
      refine lm_eT hM hx (ht.keepZ hf) hc hp hp2 hw hs hk hop ho4 ho hSp (fun _ => by omega) (fun hb h4 hl J2 e1 w2 s2 o2 f2 => ?_) (fun hb h4 => ?_) (fun hb q e J2 h1 h2 h3 h4 h5 h6 f2 => ?_) (fun hb q J2 h1 h2 h3 h4 f2 => ?_)
      · have hcc : opN (nxX t p :: S) = o + 1 := by
          show (if nxX t p = 33 ∨ nxX t p = 40 then 1 else 0) + opN S = o + 1
          rw [if_pos hb]
          omega
        have hln : (nxX t p :: S).length = S.length + 1 := rfl
        exact ih (p + 1) true (nxX t p :: S) (o + 1) _ J2 (uR_l (u_push hb h4) hr) e1 (by omega) w2 s2 (hk.cons (by omega)) hcc.symm (by omega) o2 (by omega) ⟨s1, rfl⟩ (by omega) (hf.tr f2)
      · subst h4
        exact K0 p s1 J (uR_r (u_full hb) hr).symm hp2 hp hs hf
      · obtain ⟨g1, g2, g3, g4, -⟩ := tstF_gd h1
        have hln : (S.drop (whN S)).length = S.length - whN S := List.length_drop
        have hls : (s0 ++ s1 ++ e.2.1 ++ List.replicate (whN S) (-33)).length = (s0 ++ s1).length + e.2.1.length + whN S := by
          rw [List.length_append (as := s0 ++ s1 ++ e.2.1), List.length_append (as := s0 ++ s1), List.length_replicate]
        have ho5 := whN_op S
        refine ih q false _ _ _ J2 (uR_l (u_test hb h1) hr) h3 h2 h4 h5 (hk.drop _) (by rw [ho5.2, hop]) (by omega) h6 (by omega) ⟨s1 ++ e.2.1 ++ List.replicate (whN S) (-33), ?_⟩ (by omega) (hf.tr f2)
        rw [List.append_assoc, List.append_assoc, List.append_assoc]
      · exact K0 q s1 J2 (uR_r (u_tbad hb h1) hr).symm h2 h3 h4 (hf.tr f2)
    | false =>
      have hq1 := seN_le (q := nxX t p) S
      have hq2 := seN_le (q := 124) S
      refine lm_eF hM hx (ht.keepZ hf) hc hp hp2 hw hs hk hop ho4 ho hSp (by omega) (fun hb hl J2 e1 w2 s2 o2 f2 => ?_) (fun hb hd J2 e1 s2 e2 f2 => ?_) (fun hb c1 S1 hd hn J2 e1 s2 f2 => ?_) (fun hb c1 S1 hd hn hl J2 e1 w2 s2 o2 f2 => ?_)
      · have hcc : opN (nxX t p :: S.drop (seN (nxX t p) S)) = o := by
          show (if nxX t p = 33 ∨ nxX t p = 40 then 1 else 0) + opN (S.drop (seN (nxX t p) S)) = o
          rw [if_neg (by omega), seN_op, hop, Nat.zero_add]
        have hln : (nxX t p :: S.drop (seN (nxX t p) S)).length = S.length - seN (nxX t p) S + 1 := by
          show (S.drop (seN (nxX t p) S)).length + 1 = _
          rw [List.length_drop]
        have hls : (s0 ++ s1 ++ emS (nxX t p) S).length = (s0 ++ s1).length + seN (nxX t p) S := by
          rw [List.length_append (as := s0 ++ s1), emS_len]
        refine ih (p + 1) true _ o _ J2 (uR_l (u_op hb) hr) e1 (by omega) w2 s2 ((hk.drop _).cons (by omega)) hcc.symm ho4 o2 (by omega) ⟨s1 ++ emS (nxX t p) S, ?_⟩ (by omega) (hf.tr f2)
        rw [List.append_assoc]
      · exact K1 p _ J2 (uR_r (u_done hb hd) hr).symm hp2 e1 s2 e2 (hf.tr f2)
      · refine K0 p (s1 ++ emS 124 S) J2 (uR_r (u_stop hb hd hn) hr).symm hp2 e1 ?_ (hf.tr f2)
        rw [← List.append_assoc]
        exact s2
      · have hc1 := seN_top hk hd
        have hkk : WOK S1 := by
          have := hk.drop (seN 124 S)
          rw [hd] at this
          exact this.tail
        have hS1 : S1.length + 1 = S.length - seN 124 S := by
          rw [← List.length_drop, hd]
          rfl
        have hop1 : opN S = 1 + opN S1 := by
          rw [← seN_op (q := 124) S, hd]
          show (if c1 = 33 ∨ c1 = 40 then 1 else 0) + opN S1 = _
          rw [if_pos hc1]
        have ho5 := whN_op S1
        have hwl1 := whN_le S1
        have hln : (S1.drop (whN S1)).length = S1.length - whN S1 := List.length_drop
        have hls : (s0 ++ s1 ++ emS 124 S ++ List.replicate (whN S1) (-33)).length = (s0 ++ s1).length + seN 124 S + whN S1 := by
          rw [List.length_append (as := s0 ++ s1 ++ emS 124 S), List.length_append (as := s0 ++ s1), emS_len, List.length_replicate]
        refine ih (p + 1) false _ _ _ J2 (uR_l (u_close hb hd hn) hr) e1 (by omega) w2 s2 (hkk.drop _) (by rw [ho5.2]; omega) (by omega) o2 (by omega) ⟨s1 ++ emS 124 S ++ List.replicate (whN S1) (-33), ?_⟩ (by omega) (hf.tr f2)
        rw [List.append_assoc, List.append_assoc, List.append_assoc]

