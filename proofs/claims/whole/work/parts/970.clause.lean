/-! ===== the text: the reference reads a clause ===== -/
/-- frame of a clause: rows word, number, from, to (at c), sign, waits -/
def mdC (M c : Nat) (I J : xI) : Prop := (∀ a, (a < M ∨ (M < a ∧ a < M + 9) ∨ M + 14 < a) → J a = I a) ∧ (∀ k, k ≠ 13 → k ≠ 14 → k ≠ 23 → k ≠ 24 → k ≠ 25 → J M k = I M k) ∧ ∀ a i, M + 9 ≤ a → a ≤ M + 12 → i ≠ c → J a i = I a i
theorem mdC.rf {M c : Nat} {I : xI} : mdC M c I I := ⟨fun _ _ => rfl, fun _ _ _ _ _ _ => rfl, fun _ _ _ _ _ => rfl⟩
theorem mdC.tr {M c : Nat} {I J J' : xI} (h : mdC M c I J) (h' : mdC M c J J') : mdC M c I J' := ⟨fun a p => (h'.1 a p).trans (h.1 a p), fun k p q r s t => (h'.2.1 k p q r s t).trans (h.2.1 k p q r s t), fun a i p q r => (h'.2.2 a i p q r).trans (h.2.2 a i p q r)⟩
theorem mdZ.c {M c : Nat} {I J : xI} (h : mdZ M c I J) : mdC M c I J := ⟨fun a p => h.1 a (by omega) (by omega) (by omega) (by omega), h.2.1, fun a i p q r => by
  by_cases z : a = M + 12
  · rw [z]
    exact h.2.2 i r
  · rw [h.1 a (by omega) z (by omega) (by omega)]⟩
theorem mdH.c {M c : Nat} {I J : xI} (h : mdH M c I J) : mdC M c I J := ⟨fun a p => h.1 a (by omega) (by omega), fun k p q _ _ _ => h.2.1 k p q, fun a i p q r => by
  by_cases z : a = M + 9
  · rw [z]
    exact h.2.2 i r
  · rw [h.1 a (by omega) z]⟩
theorem mdC.arr {M c a : Nat} {x : Int32} {I : xI} (h1 : M + 9 ≤ a) (h2 : a ≤ M + 12) : mdC M c I (up2 I a c x) := ⟨fun b p => up2_row (by omega), fun j _ _ _ _ _ => congrFun (up2_row (by omega)) j, fun b i _ _ r => up2_k r⟩
theorem mTxt.keepC {M c : Nat} {I J : xI} {t : xX} (h : mTxt I M t) (f : mdC M c I J) : mTxt J M t := ⟨(f.2.1 12 (by decide) (by decide) (by decide) (by decide) (by decide)).trans h.1, fun i hi => (congrFun (f.1 (M + 7) (by omega)) i).trans (h.2 i hi)⟩
theorem LWD.keepC {I J : xI} {M c : Nat} (h : LWD I M) (f : mdC M c I J) : LWD J M := h.keep (f.1 (M + 15) (by omega))

set_option maxHeartbeats 4000000 in
set_option maxRecDepth 100000 in
theorem m_takesE {T : xT} {n : Nat} {sh : Nat → Nat × Nat} {I : xI} {R : xR} {L : xL} {P : xPost} {M : Nat} (hM : xModel sh R M) {t : xX} (hx : XOK t) (ht : mTxt I M t) {p b c B0 : Nat} (hc : c < 48) (hB : B0 + 100 ≤ 600) (hp : I M 13 = nI p) (hp2 : p ≤ t.1) {s : List Int32} (hs : SGS I M b s) (hcn : b + s.length ≤ B0 + p) {r : xCQ xCE} (hr : PD (nxX t) 3 0 p none r) (K1 : ∀ (q : Nat) (e : xCE) (J : xI), r = (q, some e) → q ≤ t.1 → J M 13 = nI q → SGS J M b (s ++ e.2.1) → J (M + 11) c = nI (b + s.length) → J (M + 12) c = nI (b + s.length + e.2.1.length) → (∀ a, a = M + 9 ∨ a = M + 10 → J a = I a) → mdC M c I J → P (n, sh, 0, 0) J R L (some (.int 1))) (K0 : ∀ (q : Nat) (s2 : List Int32) (J : xI), r = (q, none) → q ≤ t.1 → J M 13 = nI q → SGS J M b (s ++ s2) → mdC M c I J → P (n, sh, 0, 0) J R L (some (.int 0)))  : XM T zX10_takesE 4 [.ref M, .int (nI c)] n sh I R L P := by
  have x100 := hx.1
  refine x_aload_n (pc := 0) dX10_takesE_0 rfl rfl ?_
  refine x_iconst (pc := 1) (v := 0) dX10_takesE_1 (by decide) ?_
  refine x_put (pc := 2) dX10_takesE_2 kf_RX10_83 hM.s rfl (Or.inl kb_10_24) ?_
  refine x_aload_n (pc := 5) dX10_takesE_5 rfl rfl ?_
  refine x_iconst (pc := 6) (v := 0) dX10_takesE_6 (by decide) ?_
  refine x_put (pc := 7) dX10_takesE_7 kf_RX10_86 hM.s rfl (Or.inl kb_10_25) ?_
  refine x_aload_n (pc := 10) dX10_takesE_10 rfl rfl ?_
  refine x_getr (pc := 11) dX10_takesE_11 kf_RX10_68 hM.s rfl hM.f10 ?_
  refine x_iload_n (pc := 14) dX10_takesE_14 rfl rfl ?_
  refine x_aload_n (pc := 15) dX10_takesE_15 rfl rfl ?_
  refine x_get (pc := 16) dX10_takesE_16 kf_RX10_80 hM.s rfl ?_
  rw [show up2 (up2 I M 24 0) M 25 0 M 23 = nI (b + s.length) from (up2_k (by decide)).trans ((up2_k (by decide)).trans hs.1)]
  refine x_iastn (pc := 19) (a := c) dX10_takesE_19 hM.s10 (by omega) (by omega) ?_
  refine x_iconst (pc := 20) (v := 1) dX10_takesE_20 (by decide) ?_
  refine x_istore_n (pc := 21) (lv' := [(0, .ref M), (1, .int (nI c)), (2, .int 1)]) dX10_takesE_21 rfl (by decide) rfl ?_
  have fx : mdC M c I (up2 (up2 (up2 I M 24 0) M 25 0) (M + 11) c (nI (b + s.length))) := ⟨fun a p => (up2_row (by omega)).trans ((up2_row (by omega)).trans (up2_row (by omega))), fun k _ _ _ q1 q2 => (congrFun (up2_row (by omega)) k).trans ((up2_k q2).trans (up2_k q1)), fun a i _ _ q => (up2_k q).trans (congrFun ((up2_row (by omega)).trans (up2_row (by omega))) i)⟩
  obtain ⟨m, hm⟩ := pd_E hr s
  refine lm_takesE (I0 := up2 (up2 (up2 I M 24 0) M 25 0) (M + 11) c (nI (b + s.length))) (s0 := s) hM hx (ht.keepC fx) hc hB (fun q sg J e1 hq e2 s2 e3 f2 => ?_) (fun q s2 J e1 hq e2 s3 f2 => ?_) m p true [] 0 s _ hm ((congrFun (up2_row (by omega)) 13).trans ((up2_k (by decide)).trans ((up2_k (by decide)).trans hp))) hp2 (WTS.nil ((congrFun (up2_row (by omega)) 24).trans ((up2_k (by decide)).trans up2_s))) (hs.keep ((congrFun (up2_row (by omega)) 23).trans ((up2_k (by decide)).trans (up2_k (by decide)))) ((up2_row (by omega)).trans ((up2_row (by omega)).trans (up2_row (by omega))))) (fun x hx => by cases hx) rfl (by decide) ((congrFun (up2_row (by omega)) 25).trans up2_s) (Nat.zero_le _) ⟨[], (List.append_nil s).symm⟩ (by show b + s.length + 0 ≤ B0 + p; omega) mdZ.rf
  · obtain ⟨q0, r0⟩ := r
    cases r0 with
    | none => cases e1
    | some e =>
      cases e1
      rw [List.length_append, ← Nat.add_assoc] at e3
      exact K1 q0 e J rfl hq e2 s2 ((congrFun (f2.1 (M + 11) (by omega) (by omega) (by omega) (by omega)) c).trans up2_s) e3 (fun a ha => (f2.1 a (by omega) (by omega) (by omega) (by omega)).trans ((up2_row (by omega)).trans ((up2_row (by omega)).trans (up2_row (by omega))))) (fx.tr f2.c)
  · obtain ⟨q0, r0⟩ := r
    cases r0 with
    | none =>
      cases e1
      exact K0 q0 s2 J rfl hq e2 s3 (fx.tr f2.c)
    | some e => cases e1

/-- how many signs a clause lays -/
def clM (x : xCL) : Nat := if x.1 = 0 then 0 else x.2.2.2.1.length
theorem CLR.w0 {nx : Nat → Nat} {p : Nat} {r : xCQ xCL} (h : CLR nx p r) (e : (wdF nx p (clWd (nx p))).2 = false) : r = ((wdF nx p (clWd (nx p))).1, none) := by
  rcases h with ⟨_, z⟩ | ⟨z, _⟩ | ⟨q, k, z, _⟩
  · exact z
  · rw [e] at z
    cases z
  · rw [e] at z
    cases z
theorem CLR.n0 {nx : Nat → Nat} {p : Nat} {r : xCQ xCL} (h : CLR nx p r) (e : (wdF nx p (clWd (nx p))).2 = true) (hn : numF nx (wdF nx p (clWd (nx p))).1 = none) : r = ((wdF nx p (clWd (nx p))).1, none) := by
  rcases h with ⟨z, _⟩ | ⟨_, _, z⟩ | ⟨q, k, _, z, _⟩
  · rw [e] at z
    cases z
  · exact z
  · rw [hn] at z
    cases z
theorem CLR.n1 {nx : Nat → Nat} {p q k : Nat} {r : xCQ xCL} (h : CLR nx p r) (e : (wdF nx p (clWd (nx p))).2 = true) (hn : numF nx (wdF nx p (clWd (nx p))).1 = some (q, k)) : ((clWd (nx p) = 0 ∧ r = (q, some (0, k, eT 0 0 0))) ∨ (clWd (nx p) ≠ 0 ∧ nx q ≠ 32 ∧ r = (q, none)) ∨ (clWd (nx p) ≠ 0 ∧ nx q = 32 ∧ ((∃ q2, PD nx 3 0 (q + 1) none (q2, none) ∧ r = (q2, none)) ∨ ∃ q2 e, PD nx 3 0 (q + 1) none (q2, some e) ∧ r = (q2, some (clWd (nx p), k, e))))) := by
  rcases h with ⟨z, _⟩ | ⟨_, z, _⟩ | ⟨q1, k1, _, z, h⟩
  · rw [e] at z
    cases z
  · rw [hn] at z
    cases z
  · rw [hn] at z
    cases z
    exact h
theorem CLR.pd {nx : Nat → Nat} {p q : Nat} {r : xCQ xCL} {k : Nat} (h : (∃ q2, PD nx 3 0 q none (q2, none) ∧ r = (q2, none)) ∨ ∃ q2 e, PD nx 3 0 q none (q2, some e) ∧ r = (q2, some (clWd (nx p), k, e))) : ∃ r0 : xCQ xCE, PD nx 3 0 q none r0 ∧ r = (r0.1, r0.2.map (fun e => (clWd (nx p), k, e))) := by
  rcases h with ⟨q2, h1, h2⟩ | ⟨q2, e, h1, h2⟩
  · exact ⟨_, h1, h2⟩
  · exact ⟨_, h1, h2⟩

set_option maxHeartbeats 4000000 in
set_option maxRecDepth 100000 in
theorem m_takesClause {T : xT} {n : Nat} {sh : Nat → Nat × Nat} {I : xI} {R : xR} {L : xL} {P : xPost} {M : Nat} (hM : xModel sh R M) {t : xX} (hx : XOK t) (ht : mTxt I M t) (hl : LWD I M) {p b c B0 : Nat} (hc : c < 48) (hB : B0 + 100 ≤ 600) (hp : I M 13 = nI p) (hp2 : p ≤ t.1) {s : List Int32} (hs : SGS I M b s) (hcn : b + s.length ≤ B0 + p) {r : xCQ xCL} (hr : CLR (nxX t) p r) (K1 : ∀ (q : Nat) (x : xCL) (J : xI), r = (q, some x) → q ≤ t.1 → p + clM x ≤ q → J M 13 = nI q → J (M + 9) c = nI (2 - x.1) → J (M + 10) c = nI x.2.1 → (∃ sg, SGS J M b (s ++ sg) ∧ sg.length = clM x ∧ (x.1 ≠ 0 → sg = x.2.2.2.1 ∧ J (M + 11) c = nI (b + s.length) ∧ J (M + 12) c = nI (b + s.length + sg.length))) → mdC M c I J → P (n, sh, 0, 0) J R L (some (.int 1))) (K0 : ∀ (q : Nat) (s2 : List Int32) (J : xI), r = (q, none) → q ≤ t.1 → J M 13 = nI q → SGS J M b (s ++ s2) → mdC M c I J → P (n, sh, 0, 0) J R L (some (.int 0)))  : XM T zX10_takesClause 5 [.ref M, .int (nI c)] n sh I R L P := by
  have x100 := hx.1
  have hwg := @wdF_ge (nxX t) p (clWd (nxX t p))
  refine x_aload_n (pc := 0) dX10_takesClause_0 rfl rfl ?_
  refine x_iload_n (pc := 1) dX10_takesClause_1 rfl rfl ?_
  refine x_callV (pc := 2) (As := [.int _]) dX10_takesClause_2 km_X10_takesHead kv_X10_takesHead kl_RX10_283 hM.s rfl rfl (by decide) ⟨Nat.le_refl _, Nat.le_refl _⟩ rfl (Nat.le_of_ble_eq_true rfl) (Nat.le_of_ble_eq_true rfl) (m_takesHead hM hx ht hl hc hp hp2 (fun J1 h1 h2 h3 h4 f1 => ⟨rfl, rfl, ?_⟩) (fun J1 h1 h2 h3 f1 => ⟨rfl, rfl, ?_⟩))
  · skip
    have hs1 : SGS J1 M b s := hs.keep (f1.2.1 23 (by decide) (by decide)) (f1.1 (M + 13) (by omega) (by omega))
    refine x_if_eq_f (pc := 5) (tgt := 15) dX10_takesClause_5 (by decide) (by decide) ?_
    refine x_aload_n (pc := 8) dX10_takesClause_8 rfl rfl ?_
    refine x_callV (pc := 9) (As := []) dX10_takesClause_9 km_X10_takesNumber kv_X10_takesNumber kl_RX10_267 hM.s rfl rfl (by decide) ⟨Nat.le_refl _, Nat.le_refl _⟩ rfl (Nat.le_of_ble_eq_true rfl) (Nat.le_of_ble_eq_true rfl) (m_takesNumber hM hx (ht.keepH f1) h3 h2 (fun q k hn hq J2 e1 e2 f2 => ⟨rfl, rfl, ?_⟩) (fun hn => ⟨rfl, rfl, ?_⟩))
    · skip
      have hs2 : SGS J2 M b s := hs1.keepR f2
      have hcl := hr.n1 h1 hn
      have hkp := numF_p hn
      have hk1 : (wdF (nxX t) p (clWd (nxX t p))).1 + 1 ≤ q := hkp.1
      have hs3 : SGS (up2 J2 (M + 10) c (nI k)) M b s := hs2.keep (congrFun (up2_row (by omega)) 23) (up2_row (by omega))
      have f3 : mdC M c I (up2 J2 (M + 10) c (nI k)) := f1.c.tr (f2.h.c.tr (mdC.arr (by omega) (by omega)))
      have e3 : up2 J2 (M + 10) c (nI k) M 13 = nI q := (congrFun (up2_row (by omega)) 13).trans e1
      have e4 : up2 J2 (M + 10) c (nI k) (M + 9) c = nI (2 - clWd (nxX t p)) := (congrFun (up2_row (by omega)) c).trans ((congrFun (f2.1 (M + 9) (by omega)) c).trans h4)
      refine x_if_ne_t (pc := 12) (tgt := 17) dX10_takesClause_12 (by decide) (by decide) ?_
      refine x_aload_n (pc := 17) dX10_takesClause_17 rfl rfl ?_
      refine x_getr (pc := 18) dX10_takesClause_18 kf_RX10_65 hM.s rfl hM.f9 ?_
      refine x_iload_n (pc := 21) dX10_takesClause_21 rfl rfl ?_
      refine x_aload_n (pc := 22) dX10_takesClause_22 rfl rfl ?_
      refine x_get (pc := 23) dX10_takesClause_23 kf_RX10_53 hM.s rfl ?_
      rw [e2]
      refine x_iastn (pc := 26) (a := c) dX10_takesClause_26 hM.s9 (by omega) (by omega) ?_
      refine x_aload_n (pc := 27) dX10_takesClause_27 rfl rfl ?_
      refine x_getr (pc := 28) dX10_takesClause_28 kf_RX10_62 hM.s rfl hM.f8 ?_
      refine x_iload_n (pc := 31) dX10_takesClause_31 rfl rfl ?_
      refine x_ialdn (pc := 32) (a := c) dX10_takesClause_32 hM.s8 (by omega) (by omega) ?_
      rw [e4]
      refine x_iconst (pc := 33) (v := 2) dX10_takesClause_33 (by decide) ?_
      refine x_icmpn_eq (pc := 34) (tgt := 54) (a := (2 - clWd (nxX t p))) (b := 2) dX10_takesClause_34 (by decide) (by omega) (by decide) (fun c34 => ?_) (fun c34 => ?_)
      · skip
        refine x_iconst (pc := 54) (v := 1) dX10_takesClause_54 (by decide) ?_
        refine x_goto (pc := 55) (tgt := 59) dX10_takesClause_55 (by decide) ?_
        refine x_ireturn (pc := 59) dX10_takesClause_59 ⟨_, rfl, by decide⟩ ⟨Nat.le_refl _, Nat.le_refl _⟩ ?_
        first
        | (have gd := pd_gd hp0 e (by rw [y1])
           subst y1
           obtain ⟨z1, z2, z3, z4, -⟩ := gd
           have z4 : q + 1 + e.2.1.length ≤ q2 := z4
           have ecm : clM (clWd (nxX t p), k, e) = e.2.1.length := if_neg hw0
           refine K1 q2 (clWd (nxX t p), k, e) J4 er y2 (by rw [ecm]; omega) y3 ((congrFun (y7 (M + 9) (Or.inl rfl)) c).trans ((congrFun (up2_row (by omega)) c).trans e4)) ((congrFun (y7 (M + 10) (Or.inr rfl)) c).trans ((congrFun (up2_row (by omega)) c).trans up2_s)) ⟨e.2.1, y4, ecm.symm, fun _ => ⟨rfl, y5, y6⟩⟩ (f3.tr (mdR.p.h.c.tr f4)))
        | (have hw0 : clWd (nxX t p) = 0 := by
             have := @clWd_lt (nxX t p)
             omega
           have er := (hcl.resolve_right (fun z => z.elim (fun z => z.1 hw0) (fun z => z.1 hw0))).2
           refine K1 q (0, k, eT 0 0 0) _ er hq (by show p + 0 ≤ q; omega) e3 (by rw [hw0] at e4; exact e4) up2_s ⟨[], by rw [List.append_nil]; exact hs3, rfl, fun z => absurd rfl z⟩ f3)
      · skip
        have hw0 : clWd (nxX t p) ≠ 0 := by omega
        refine x_aload_n (pc := 37) dX10_takesClause_37 rfl rfl ?_
        refine x_bipush (pc := 38) (v := 32) dX10_takesClause_38 (by decide) ?_
        refine x_callV (pc := 40) (As := [.int _]) dX10_takesClause_40 km_X10_takes kv_X10_takes kl_RX10_253 hM.s rfl rfl (by decide) ⟨Nat.le_refl _, Nat.le_refl _⟩ rfl (Nat.le_of_ble_eq_true rfl) (Nat.le_of_ble_eq_true rfl) (m_takes (c := 32) hM hx (ht.keepC f3) e3 hq (by decide) (fun g1 g2 => ⟨rfl, rfl, ?_⟩) (fun g1 => ⟨rfl, rfl, ?_⟩))
        · skip
          have hcl2 := CLR.pd ((hcl.resolve_left (fun z => hw0 z.1)).resolve_left (fun z => z.2.1 g1)).2.2
          obtain ⟨r0, hp0, er⟩ := hcl2
          refine x_if_eq_f (pc := 43) (tgt := 58) dX10_takesClause_43 (by decide) (by decide) ?_
          refine x_aload_n (pc := 46) dX10_takesClause_46 rfl rfl ?_
          refine x_iload_n (pc := 47) dX10_takesClause_47 rfl rfl ?_
          refine x_callV (pc := 48) (As := [.int _]) dX10_takesClause_48 km_X10_takesE kv_X10_takesE kl_RX10_286 hM.s rfl rfl (by decide) ⟨Nat.le_refl _, Nat.le_refl _⟩ rfl (Nat.le_of_ble_eq_true rfl) (Nat.le_of_ble_eq_true rfl) (m_takesE (p := q + 1) hM hx (mTxt.keepR (ht.keepC f3) mdR.p) hc hB up2_s (by omega) (hs3.keepR mdR.p) (by omega) hp0 (fun q2 e J4 y1 y2 y3 y4 y5 y6 y7 f4 => ⟨rfl, rfl, ?_⟩) (fun q2 s2 J4 y1 y2 y3 y4 f4 => ⟨rfl, rfl, ?_⟩))
          · skip
            refine x_if_eq_f (pc := 51) (tgt := 58) dX10_takesClause_51 (by decide) (by decide) ?_
            refine x_iconst (pc := 54) (v := 1) dX10_takesClause_54 (by decide) ?_
            refine x_goto (pc := 55) (tgt := 59) dX10_takesClause_55 (by decide) ?_
            refine x_ireturn (pc := 59) dX10_takesClause_59 ⟨_, rfl, by decide⟩ ⟨Nat.le_refl _, Nat.le_refl _⟩ ?_
            first
            | (have gd := pd_gd hp0 e (by rw [y1])
               subst y1
               obtain ⟨z1, z2, z3, z4, -⟩ := gd
               have z4 : q + 1 + e.2.1.length ≤ q2 := z4
               have ecm : clM (clWd (nxX t p), k, e) = e.2.1.length := if_neg hw0
               refine K1 q2 (clWd (nxX t p), k, e) J4 er y2 (by rw [ecm]; omega) y3 ((congrFun (y7 (M + 9) (Or.inl rfl)) c).trans ((congrFun (up2_row (by omega)) c).trans e4)) ((congrFun (y7 (M + 10) (Or.inr rfl)) c).trans ((congrFun (up2_row (by omega)) c).trans up2_s)) ⟨e.2.1, y4, ecm.symm, fun _ => ⟨rfl, y5, y6⟩⟩ (f3.tr (mdR.p.h.c.tr f4)))
            | (have hw0 : clWd (nxX t p) = 0 := by
                 have := @clWd_lt (nxX t p)
                 omega
               have er := (hcl.resolve_right (fun z => z.elim (fun z => z.1 hw0) (fun z => z.1 hw0))).2
               refine K1 q (0, k, eT 0 0 0) _ er hq (by show p + 0 ≤ q; omega) e3 (by rw [hw0] at e4; exact e4) up2_s ⟨[], by rw [List.append_nil]; exact hs3, rfl, fun z => absurd rfl z⟩ f3)
          · skip
            refine x_if_eq_t (pc := 51) (tgt := 58) dX10_takesClause_51 (by decide) (by decide) ?_
            refine x_iconst (pc := 58) (v := 0) dX10_takesClause_58 (by decide) ?_
            refine x_ireturn (pc := 59) dX10_takesClause_59 ⟨_, rfl, by decide⟩ ⟨Nat.le_refl _, Nat.le_refl _⟩ ?_
            first
            | (subst y1
               exact K0 q2 s2 J4 er y2 y3 y4 (f3.tr (mdR.p.h.c.tr f4)))
            | exact K0 q [] _ hcl2.2.2 hq e3 (by rw [List.append_nil]; exact hs3) f3
        · skip
          have hcl2 := (hcl.resolve_left (fun z => hw0 z.1)).resolve_right (fun z => g1 z.2.1)
          refine x_if_eq_t (pc := 43) (tgt := 58) dX10_takesClause_43 (by decide) (by decide) ?_
          refine x_iconst (pc := 58) (v := 0) dX10_takesClause_58 (by decide) ?_
          refine x_ireturn (pc := 59) dX10_takesClause_59 ⟨_, rfl, by decide⟩ ⟨Nat.le_refl _, Nat.le_refl _⟩ ?_
          first
          | (subst y1
             exact K0 q2 s2 J4 er y2 y3 y4 (f3.tr (mdR.p.h.c.tr f4)))
          | exact K0 q [] _ hcl2.2.2 hq e3 (by rw [List.append_nil]; exact hs3) f3
    · skip
      refine x_if_ne_f (pc := 12) (tgt := 17) dX10_takesClause_12 (by decide) (by decide) ?_
      refine x_iconst (pc := 15) (v := 0) dX10_takesClause_15 (by decide) ?_
      refine x_ireturn (pc := 16) dX10_takesClause_16 ⟨_, rfl, by decide⟩ ⟨Nat.le_refl _, Nat.le_refl _⟩ ?_
      first
      | exact K0 _ [] _ (hr.n0 h1 hn) h2 h3 (by rw [List.append_nil]; exact hs1) f1.c
      | exact K0 _ [] _ (hr.w0 h1) h2 h3 (by rw [List.append_nil]; exact hs1) f1.c
  · skip
    have hs1 : SGS J1 M b s := hs.keep (f1.2.1 23 (by decide) (by decide)) (f1.1 (M + 13) (by omega) (by omega))
    refine x_if_eq_t (pc := 5) (tgt := 15) dX10_takesClause_5 (by decide) (by decide) ?_
    refine x_iconst (pc := 15) (v := 0) dX10_takesClause_15 (by decide) ?_
    refine x_ireturn (pc := 16) dX10_takesClause_16 ⟨_, rfl, by decide⟩ ⟨Nat.le_refl _, Nat.le_refl _⟩ ?_
    first
    | exact K0 _ [] _ (hr.n0 h1 hn) h2 h3 (by rw [List.append_nil]; exact hs1) f1.c
    | exact K0 _ [] _ (hr.w0 h1) h2 h3 (by rw [List.append_nil]; exact hs1) f1.c

