/-! ===== the reference: a RING's clauses ===== -/
def fct (a1 a2 a3 a4 a5 fn : Nat) : Nat := if fn = 0 then a1 else if fn = 1 then a2 else if fn = 2 then a3 else if fn = 3 then a4 else a5
def testM (a1 a2 a3 a4 a5 tn : Nat) : Bool := if tn / 100 % 10 = 0 then decide (fct a1 a2 a3 a4 a5 (tn / 1000) < tn % 100) else if tn / 100 % 10 = 1 then decide (fct a1 a2 a3 a4 a5 (tn / 1000) = tn % 100) else decide (tn % 100 < fct a1 a2 a3 a4 a5 (tn / 1000))
def stM (a1 a2 a3 a4 a5 : Nat) (t : Int32) (st : List Bool) : Option (List Bool) :=
  if t = -33 then (match st with
    | b :: r => some ((!b) :: r)
    | [] => none)
  else if t < 0 then (match st with
    | a :: b :: r => some ((if t = -38 then b && a else b || a) :: r)
    | _ => none)
  else if st.length < 100 ∧ t.toNatClampNeg < 5000 then some (testM a1 a2 a3 a4 a5 t.toNatClampNeg :: st) else none
def evM (a1 a2 a3 a4 a5 : Nat) (sg : Nat → Int32) (fr : Nat) : Nat → Option (List Bool)
  | 0 => some []
  | k + 1 => match evM a1 a2 a3 a4 a5 sg fr k with
    | none => none
    | some st => stM a1 a2 a3 a4 a5 (sg (fr + k)) st
theorem evM_pre {a1 a2 a3 a4 a5 : Nat} {sg : Nat → Int32} {fr k : Nat} {st' : List Bool} (h : evM a1 a2 a3 a4 a5 sg fr (k + 1) = some st') : ∃ st, evM a1 a2 a3 a4 a5 sg fr k = some st ∧ stM a1 a2 a3 a4 a5 (sg (fr + k)) st = some st' := by
  have h : (match evM a1 a2 a3 a4 a5 sg fr k with | none => none | some st => stM a1 a2 a3 a4 a5 (sg (fr + k)) st) = some st' := h
  cases he : evM a1 a2 a3 a4 a5 sg fr k with
  | none => rw [he] at h; cases h
  | some st => rw [he] at h; exact ⟨st, rfl, h⟩
theorem evM_all {a1 a2 a3 a4 a5 : Nat} {sg : Nat → Int32} {fr : Nat} : ∀ {w k : Nat} {st' : List Bool}, evM a1 a2 a3 a4 a5 sg fr (k + w) = some st' → ∃ st, evM a1 a2 a3 a4 a5 sg fr k = some st
  | 0, k, st', h => ⟨st', h⟩
  | w + 1, k, st', h => by
    obtain ⟨st, h1, -⟩ := evM_pre (k := k + w) h
    exact evM_all h1
def pileIs (g : Nat → Int32) : List Bool → Prop
  | [] => True
  | b :: r => g r.length = (if b = true then 1 else 0) ∧ pileIs g r
theorem pileIs_keep {g g' : Nat → Int32} : ∀ {st : List Bool}, (∀ j, j < st.length → g' j = g j) → pileIs g st → pileIs g' st
  | [], _, _ => trivial
  | b :: r, hk, h => ⟨(hk r.length (by simp)).trans h.1, pileIs_keep (fun j hj => hk j (by simp; omega)) h.2⟩
theorem pileIs_put {I : xI} {a k : Nat} {x : Int32} {st : List Bool} (hk : st.length ≤ k) (h : pileIs (I a) st) : pileIs (up2 I a k x a) st := pileIs_keep (fun j hj => up2_k (by omega)) h
set_option maxHeartbeats 4000000 in
set_option maxRecDepth 100000 in
theorem m_factOf {T : xT} {n : Nat} {sh : Nat → Nat × Nat} {I : xI} {R : xR} {L : xL} {P : xPost} {M bi a2 a3 a4 te fn : Nat} (hM : xModel sh R M) (hb6 : bi < 6) (h2 : I (M + 5) bi = nI a2) (h3 : I M 33 = nI a3) (h4 : I M 34 = nI a4) (h5 : I M 28 = nI te) (hte : te < 1000000) (hfn : fn < 5) (K : P (n, sh, 0, 0) I R L (some (.int (nI (fct bi a2 a3 a4 (te % 60) fn))))) : XM T zX10_factOf 0 [.ref M, .int (nI fn), .int (nI bi)] n sh I R L P := by
  match fn, hfn with
  | 0, _ =>
    rw [show nI 0 = 0 from rfl]
    refine x_iload_n (pc := 0) dX10_factOf_0 rfl rfl ?_
    refine x_tsw (pc := 1) (dt := 51) [(0, 32), (1, 34), (2, 41), (3, 46)] dX10_factOf_1 (by decide +kernel) (by decide) ?_
    refine xsw_c (fun _ => ?_) (fun h => absurd rfl h)
    refine x_iload_n (pc := 32) dX10_factOf_32 rfl rfl ?_
    refine x_ireturn (pc := 33) dX10_factOf_33 ⟨_, rfl, rfl⟩ ⟨Nat.le_refl _, Nat.le_refl _⟩ ?_
    exact K
  | 1, _ =>
    rw [show nI 1 = 1 from rfl]
    refine x_iload_n (pc := 0) dX10_factOf_0 rfl rfl ?_
    refine x_tsw (pc := 1) (dt := 51) [(0, 32), (1, 34), (2, 41), (3, 46)] dX10_factOf_1 (by decide +kernel) (by decide) ?_
    refine xsw_c (fun h => absurd h (by decide)) (fun _ => ?_)
    refine xsw_c (fun _ => ?_) (fun h => absurd rfl h)
    refine x_aload_n (pc := 34) dX10_factOf_34 rfl rfl ?_
    refine x_getr (pc := 35) dX10_factOf_35 kf_RX10_35 hM.s rfl hM.f4 ?_
    refine x_iload_n (pc := 38) dX10_factOf_38 rfl rfl ?_
    refine x_ialdn (pc := 39) (a := bi) dX10_factOf_39 hM.s4 (by omega) (by omega) ?_
    refine x_ireturn (pc := 40) dX10_factOf_40 ⟨_, rfl, rfl⟩ ⟨Nat.le_refl _, Nat.le_refl _⟩ ?_
    rw [h2]
    exact K
  | 2, _ =>
    rw [show nI 2 = 2 from rfl]
    refine x_iload_n (pc := 0) dX10_factOf_0 rfl rfl ?_
    refine x_tsw (pc := 1) (dt := 51) [(0, 32), (1, 34), (2, 41), (3, 46)] dX10_factOf_1 (by decide +kernel) (by decide) ?_
    refine xsw_c (fun h => absurd h (by decide)) (fun _ => ?_)
    refine xsw_c (fun h => absurd h (by decide)) (fun _ => ?_)
    refine xsw_c (fun _ => ?_) (fun h => absurd rfl h)
    refine x_aload_n (pc := 41) dX10_factOf_41 rfl rfl ?_
    refine x_get (pc := 42) dX10_factOf_42 kf_RX10_111 hM.s rfl ?_
    refine x_ireturn (pc := 45) dX10_factOf_45 ⟨_, rfl, rfl⟩ ⟨Nat.le_refl _, Nat.le_refl _⟩ ?_
    rw [h3]
    exact K
  | 3, _ =>
    rw [show nI 3 = 3 from rfl]
    refine x_iload_n (pc := 0) dX10_factOf_0 rfl rfl ?_
    refine x_tsw (pc := 1) (dt := 51) [(0, 32), (1, 34), (2, 41), (3, 46)] dX10_factOf_1 (by decide +kernel) (by decide) ?_
    refine xsw_c (fun h => absurd h (by decide)) (fun _ => ?_)
    refine xsw_c (fun h => absurd h (by decide)) (fun _ => ?_)
    refine xsw_c (fun h => absurd h (by decide)) (fun _ => ?_)
    refine xsw_c (fun _ => ?_) (fun h => absurd rfl h)
    refine x_aload_n (pc := 46) dX10_factOf_46 rfl rfl ?_
    refine x_get (pc := 47) dX10_factOf_47 kf_RX10_114 hM.s rfl ?_
    refine x_ireturn (pc := 50) dX10_factOf_50 ⟨_, rfl, rfl⟩ ⟨Nat.le_refl _, Nat.le_refl _⟩ ?_
    rw [h4]
    exact K
  | 4, _ =>
    rw [show nI 4 = 4 from rfl]
    refine x_iload_n (pc := 0) dX10_factOf_0 rfl rfl ?_
    refine x_tsw (pc := 1) (dt := 51) [(0, 32), (1, 34), (2, 41), (3, 46)] dX10_factOf_1 (by decide +kernel) (by decide) ?_
    refine xsw_c (fun h => absurd h (by decide)) (fun _ => ?_)
    refine xsw_c (fun h => absurd h (by decide)) (fun _ => ?_)
    refine xsw_c (fun h => absurd h (by decide)) (fun _ => ?_)
    refine xsw_c (fun h => absurd h (by decide)) (fun _ => ?_)
    refine xsw_n ?_
    refine x_aload_n (pc := 51) dX10_factOf_51 rfl rfl ?_
    refine x_get (pc := 52) dX10_factOf_52 kf_RX10_95 hM.s rfl ?_
    rw [h5]
    refine x_bipush (pc := 55) (v := 60) dX10_factOf_55 (by decide) ?_
    refine x_iremn (pc := 57) (a := te) (b := 60) dX10_factOf_57 (by omega) (by decide) (by decide) ?_
    refine x_ireturn (pc := 58) dX10_factOf_58 ⟨_, rfl, rfl⟩ ⟨Nat.le_refl _, Nat.le_refl _⟩ ?_
    exact K

theorem evM_len {a1 a2 a3 a4 a5 : Nat} {sg : Nat → Int32} {fr : Nat} : ∀ {k : Nat} {st : List Bool}, evM a1 a2 a3 a4 a5 sg fr k = some st → st.length ≤ 100
  | 0, st, h => by cases h; exact Nat.zero_le _
  | k + 1, st, h => by
    obtain ⟨s1, h1, h2⟩ := evM_pre h
    have ih := evM_len h1
    unfold stM at h2
    split at h2
    · cases s1 with
      | nil => cases h2
      | cons b r => cases h2; exact ih
    · split at h2
      · match s1, h2, ih with
        | [], h2, _ => cases h2
        | [_], h2, _ => cases h2
        | a :: b :: r, h2, ih => cases h2; simp at ih ⊢; omega
      · split at h2
        · rename_i q
          cases h2
          exact q.1
        · cases h2
set_option maxHeartbeats 4000000 in
set_option maxRecDepth 100000 in
theorem lm_holds {T : xT} {n : Nat} {sh : Nat → Nat × Nat} {I : xI} {R : xR} {L : xL} {P : xPost} {M bi a2 a3 a4 te c fr kk : Nat} {v : Bool} (hM : xModel sh R M) (hb6 : bi < 6) (h2 : I (M + 5) bi = nI a2) (h3 : I M 33 = nI a3) (h4 : I M 34 = nI a4) (h5 : I M 28 = nI te) (hte : te < 1000000) (hc48 : c < 48) (hfr : I (M + 11) c = nI fr) (hto : I (M + 12) c = nI (fr + kk)) (h600 : fr + kk ≤ 600) (hev : evM bi a2 a3 a4 (te % 60) (I (M + 13)) fr kk = some [v]) (hab : a2 < 100 ∧ a3 < 100 ∧ a4 < 100) (K : ∀ I2 : xI, (∀ a, a ≠ M + 18 → I2 a = I a) → P (n, sh, 0, 0) I2 R L (some (.int (if v = true then 1 else 0)))) : ∀ (w i : Nat), i + w = kk → ∀ (J : xI) (st : List Bool), evM bi a2 a3 a4 (te % 60) (I (M + 13)) fr i = some st → pileIs (J (M + 18)) st → (∀ a, a ≠ M + 18 → J a = I a) → X T zX10_holds 1 0 0 P 10 [(0, .ref M), (1, .int (nI c)), (2, .int (nI bi)), (3, .int (nI st.length)), (4, .int (nI (fr + i)))] [] (n, sh, 0, 0) (J) R L := by
  intro w
  induction w with
  | zero =>
    intro i hw J st hst hp fj
    have hz : i = kk := by omega
    have kj : ∀ a, a ≠ M + 18 → J a = I a := fj
    refine x_iload (pc := 10) dX10_holds_10 rfl ?_
    refine x_aload_n (pc := 12) dX10_holds_12 rfl rfl ?_
    refine x_getr (pc := 13) dX10_holds_13 kf_RX10_71 hM.s rfl hM.f11 ?_
    refine x_iload_n (pc := 16) dX10_holds_16 rfl rfl ?_
    refine x_ialdn (pc := 17) (a := c) dX10_holds_17 hM.s11 (by omega) (by omega) ?_
    rw [kj _ (by omega), hto]
    refine x_icmpn_ge_t (pc := 18) (tgt := 243) (a := (fr + i)) (b := (fr + kk)) dX10_holds_18 (by decide) (by omega) (by omega) (by omega) ?_
    refine x_aload_n (pc := 243) dX10_holds_243 rfl rfl ?_
    refine x_getr (pc := 244) dX10_holds_244 kf_RX10_107 hM.s rfl hM.f17 ?_
    refine x_iconst (pc := 247) (v := 0) dX10_holds_247 (by decide) ?_
    refine x_zaldn (pc := 248) (a := 0) dX10_holds_248 hM.s17 (by omega) (by omega) ?_
    rw [hz] at hst
    rw [hev] at hst
    cases hst
    rw [show J (M + 18) 0 = (if v = true then 1 else 0) from hp.1]
    refine x_ireturn (pc := 249) dX10_holds_249 ⟨_, rfl, by cases v <;> decide⟩ ⟨Nat.le_refl _, Nat.le_refl _⟩ ?_
    exact K J fj
  | succ w ih =>
    intro i hw J st hst hp fj
    have hi : i < kk := by omega
    have kj : ∀ a, a ≠ M + 18 → J a = I a := fj
    obtain ⟨st2, hst2, hs2⟩ : ∃ st2, evM bi a2 a3 a4 (te % 60) (I (M + 13)) fr (i + 1) = some st2 ∧ stM bi a2 a3 a4 (te % 60) (I (M + 13) (fr + i)) st = some st2 := by
          obtain ⟨s2, q1⟩ := evM_all (w := w) (k := i + 1) (by rw [show i + 1 + w = kk by omega]; exact hev)
          obtain ⟨s1, q2, q3⟩ := evM_pre q1
          rw [hst] at q2
          cases q2
          exact ⟨s2, q1, q3⟩
    have hsl : st.length ≤ 100 := evM_len hst
    refine x_iload (pc := 10) dX10_holds_10 rfl ?_
    refine x_aload_n (pc := 12) dX10_holds_12 rfl rfl ?_
    refine x_getr (pc := 13) dX10_holds_13 kf_RX10_71 hM.s rfl hM.f11 ?_
    refine x_iload_n (pc := 16) dX10_holds_16 rfl rfl ?_
    refine x_ialdn (pc := 17) (a := c) dX10_holds_17 hM.s11 (by omega) (by omega) ?_
    rw [kj _ (by omega), hto]
    refine x_icmpn_ge_f (pc := 18) (tgt := 243) (a := (fr + i)) (b := (fr + kk)) dX10_holds_18 (by decide) (by omega) (by omega) (by omega) ?_
    refine x_aload_n (pc := 21) dX10_holds_21 rfl rfl ?_
    refine x_getr (pc := 22) dX10_holds_22 kf_RX10_74 hM.s rfl hM.f12 ?_
    refine x_iload (pc := 25) dX10_holds_25 rfl ?_
    refine x_ialdn (pc := 27) (a := (fr + i)) dX10_holds_27 hM.s12 (by omega) (by omega) ?_
    rw [kj (M + 13) (by omega)]
    refine x_topi (fun v28 ev28 => ?_)
    refine x_istore (pc := 28) (lv' := [(0, .ref M), (1, .int (nI c)), (2, .int (nI bi)), (3, .int (nI st.length)), (4, .int (nI (fr + i))), (5, .int v28)]) dX10_holds_28 (by decide) rfl ?_
    refine x_iload (pc := 30) dX10_holds_30 rfl ?_
    refine x_bipush (pc := 32) (v := -33) dX10_holds_32 (by decide) ?_
    refine x_icmp_ne (pc := 34) (tgt := 64) dX10_holds_34 (by decide) (fun c34 => ?_) (fun c34 => ?_)
    · skip
      refine x_iload (pc := 64) dX10_holds_64 rfl ?_
      refine x_if_ge (pc := 66) (tgt := 143) dX10_holds_66 (by decide) (fun c66 => ?_) (fun c66 => ?_)
      · skip
        obtain ⟨tn, htn, e143⟩ := nI_of (i32_nlt c66)
        subst e143
        have h8 : st.length < 100 ∧ tn < 5000 ∧ st2 = testM bi a2 a3 a4 (te % 60) tn :: st := by
                rw [← ev28] at hs2
                unfold stM at hs2
                rw [if_neg c34, if_neg (nI_pos htn), nI_clamp htn] at hs2
                split at hs2
                · rename_i q
                  exact ⟨q.1, q.2, (Option.some.inj hs2).symm⟩
                · cases hs2
        obtain ⟨h8a, h8b, h9⟩ := h8
        refine x_aload_n (pc := 143) dX10_holds_143 rfl rfl ?_
        refine x_iload (pc := 144) dX10_holds_144 rfl ?_
        refine x_sipush (pc := 146) (v := 1000) dX10_holds_146 (by decide) ?_
        refine x_idivn (pc := 149) (a := tn) (b := 1000) dX10_holds_149 (by omega) (by decide) (by decide) ?_
        refine x_iload_n (pc := 150) dX10_holds_150 rfl rfl ?_
        refine x_callV (pc := 151) (As := [.int _, .int _]) dX10_holds_151 km_X10_factOf kv_X10_factOf kl_RX10_310 hM.s rfl rfl (by decide) ⟨Nat.le_refl _, Nat.le_refl _⟩ rfl (Nat.le_of_ble_eq_true rfl) (Nat.le_of_ble_eq_true rfl) (m_factOf (a2 := a2) (a3 := a3) (a4 := a4) (te := te) hM hb6 (by rw [kj _ (by omega)]; exact h2) (by rw [kj _ (by omega)]; exact h3) (by rw [kj _ (by omega)]; exact h4) (by rw [kj _ (by omega)]; exact h5) hte (by omega) (⟨rfl, rfl, ?_⟩))
        have hfc : fct bi a2 a3 a4 (te % 60) (tn / 1000) < 2 ^ 31 := by unfold fct; have := hab; split; omega; split; omega; split; omega; split; omega; omega
        refine x_istore (pc := 154) (lv' := [(0, .ref M), (1, .int (nI c)), (2, .int (nI bi)), (3, .int (nI st.length)), (4, .int (nI (fr + i))), (5, .int (nI tn)), (6, .int (nI (fct bi a2 a3 a4 (te % 60) (tn / 1000))))]) dX10_holds_154 (by decide) rfl ?_
        refine x_iload (pc := 156) dX10_holds_156 rfl ?_
        refine x_bipush (pc := 158) (v := 100) dX10_holds_158 (by decide) ?_
        refine x_idivn (pc := 160) (a := tn) (b := 100) dX10_holds_160 (by omega) (by decide) (by decide) ?_
        refine x_bipush (pc := 161) (v := 10) dX10_holds_161 (by decide) ?_
        refine x_iremn (pc := 163) (a := (tn / 100)) (b := 10) dX10_holds_163 (by omega) (by decide) (by decide) ?_
        refine x_istore (pc := 164) (lv' := [(0, .ref M), (1, .int (nI c)), (2, .int (nI bi)), (3, .int (nI st.length)), (4, .int (nI (fr + i))), (5, .int (nI tn)), (6, .int (nI (fct bi a2 a3 a4 (te % 60) (tn / 1000)))), (7, .int (nI ((tn / 100) % 10)))]) dX10_holds_164 (by decide) rfl ?_
        refine x_aload_n (pc := 166) dX10_holds_166 rfl rfl ?_
        refine x_getr (pc := 167) dX10_holds_167 kf_RX10_107 hM.s rfl hM.f17 ?_
        refine x_iload_n (pc := 170) dX10_holds_170 rfl rfl ?_
        refine x_iload (pc := 171) dX10_holds_171 rfl ?_
        refine x_ifn_ne (pc := 173) (tgt := 194) (a := ((tn / 100) % 10)) dX10_holds_173 (by decide) (by omega) (fun c173 => ?_) (fun c173 => ?_)
        · skip
          refine x_iload (pc := 194) dX10_holds_194 rfl ?_
          refine x_iconst (pc := 196) (v := 1) dX10_holds_196 (by decide) ?_
          refine x_icmpn_ne (pc := 197) (tgt := 218) (a := ((tn / 100) % 10)) (b := 1) dX10_holds_197 (by decide) (by omega) (by decide) (fun c197 => ?_) (fun c197 => ?_)
          · skip
            refine x_iload (pc := 218) dX10_holds_218 rfl ?_
            refine x_iload (pc := 220) dX10_holds_220 rfl ?_
            refine x_bipush (pc := 222) (v := 100) dX10_holds_222 (by decide) ?_
            refine x_iremn (pc := 224) (a := tn) (b := 100) dX10_holds_224 (by omega) (by decide) (by decide) ?_
            refine x_icmpn_le (pc := 225) (tgt := 232) (a := (fct bi a2 a3 a4 (te % 60) (tn / 1000))) (b := (tn % 100)) dX10_holds_225 (by decide) (by omega) (by omega) (fun c225 => ?_) (fun c225 => ?_)
            · skip
              refine x_iconst (pc := 232) (v := 0) dX10_holds_232 (by decide) ?_
              have hbv : testM bi a2 a3 a4 (te % 60) tn = false := by
                      unfold testM
                      rw [if_neg c173, if_neg c197]
                      exact decide_eq_false (Nat.not_lt.mpr c225)
              refine x_zastn (pc := 233) (a := st.length) dX10_holds_233 hM.s17 (by omega) (by omega) (by decide) ?_
              refine x_iinc (pc := 234) (v := nI (st.length + 1)) (lv' := [(0, .ref M), (1, .int (nI c)), (2, .int (nI bi)), (3, .int (nI (st.length + 1))), (4, .int (nI (fr + i))), (5, .int (nI tn)), (6, .int (nI (fct bi a2 a3 a4 (te % 60) (tn / 1000)))), (7, .int (nI ((tn / 100) % 10)))]) dX10_holds_234 rfl (nI_1 _) (by decide) rfl ?_
              refine x_iinc (pc := 237) (v := nI (fr + i + 1)) (lv' := [(0, .ref M), (1, .int (nI c)), (2, .int (nI bi)), (3, .int (nI (st.length + 1))), (4, .int (nI (fr + i + 1))), (5, .int (nI tn)), (6, .int (nI (fct bi a2 a3 a4 (te % 60) (tn / 1000)))), (7, .int (nI ((tn / 100) % 10)))]) dX10_holds_237 rfl (nI_1 _) (by decide) rfl ?_
              refine x_goto (pc := 240) (tgt := 10) dX10_holds_240 (by decide) ?_
              refine X.keep [0, 1, 2, 3, 4] rfl ?_
              rw [show st.length + 1 = st2.length by rw [h9]; rfl]
              exact ih (i + 1) (by omega) _ st2 hst2 (by rw [h9]; exact ⟨by rw [up2_s, hbv]; rfl, pileIs_put (Nat.le_refl _) hp⟩) (fun a ha => (up2_row ha).trans (fj a ha))
            · skip
              refine x_iconst (pc := 228) (v := 1) dX10_holds_228 (by decide) ?_
              refine x_goto (pc := 229) (tgt := 233) dX10_holds_229 (by decide) ?_
              have hbv : testM bi a2 a3 a4 (te % 60) tn = true := by
                      unfold testM
                      rw [if_neg c173, if_neg c197]
                      exact decide_eq_true c225
              refine x_zastn (pc := 233) (a := st.length) dX10_holds_233 hM.s17 (by omega) (by omega) (by decide) ?_
              refine x_iinc (pc := 234) (v := nI (st.length + 1)) (lv' := [(0, .ref M), (1, .int (nI c)), (2, .int (nI bi)), (3, .int (nI (st.length + 1))), (4, .int (nI (fr + i))), (5, .int (nI tn)), (6, .int (nI (fct bi a2 a3 a4 (te % 60) (tn / 1000)))), (7, .int (nI ((tn / 100) % 10)))]) dX10_holds_234 rfl (nI_1 _) (by decide) rfl ?_
              refine x_iinc (pc := 237) (v := nI (fr + i + 1)) (lv' := [(0, .ref M), (1, .int (nI c)), (2, .int (nI bi)), (3, .int (nI (st.length + 1))), (4, .int (nI (fr + i + 1))), (5, .int (nI tn)), (6, .int (nI (fct bi a2 a3 a4 (te % 60) (tn / 1000)))), (7, .int (nI ((tn / 100) % 10)))]) dX10_holds_237 rfl (nI_1 _) (by decide) rfl ?_
              refine x_goto (pc := 240) (tgt := 10) dX10_holds_240 (by decide) ?_
              refine X.keep [0, 1, 2, 3, 4] rfl ?_
              rw [show st.length + 1 = st2.length by rw [h9]; rfl]
              exact ih (i + 1) (by omega) _ st2 hst2 (by rw [h9]; exact ⟨by rw [up2_s, hbv]; rfl, pileIs_put (Nat.le_refl _) hp⟩) (fun a ha => (up2_row ha).trans (fj a ha))
          · skip
            refine x_iload (pc := 200) dX10_holds_200 rfl ?_
            refine x_iload (pc := 202) dX10_holds_202 rfl ?_
            refine x_bipush (pc := 204) (v := 100) dX10_holds_204 (by decide) ?_
            refine x_iremn (pc := 206) (a := tn) (b := 100) dX10_holds_206 (by omega) (by decide) (by decide) ?_
            refine x_icmpn_ne (pc := 207) (tgt := 214) (a := (fct bi a2 a3 a4 (te % 60) (tn / 1000))) (b := (tn % 100)) dX10_holds_207 (by decide) (by omega) (by omega) (fun c207 => ?_) (fun c207 => ?_)
            · skip
              refine x_iconst (pc := 214) (v := 0) dX10_holds_214 (by decide) ?_
              refine x_goto (pc := 215) (tgt := 233) dX10_holds_215 (by decide) ?_
              have hbv : testM bi a2 a3 a4 (te % 60) tn = false := by
                      unfold testM
                      rw [if_neg c173, if_pos c197]
                      exact decide_eq_false c207
              refine x_zastn (pc := 233) (a := st.length) dX10_holds_233 hM.s17 (by omega) (by omega) (by decide) ?_
              refine x_iinc (pc := 234) (v := nI (st.length + 1)) (lv' := [(0, .ref M), (1, .int (nI c)), (2, .int (nI bi)), (3, .int (nI (st.length + 1))), (4, .int (nI (fr + i))), (5, .int (nI tn)), (6, .int (nI (fct bi a2 a3 a4 (te % 60) (tn / 1000)))), (7, .int (nI ((tn / 100) % 10)))]) dX10_holds_234 rfl (nI_1 _) (by decide) rfl ?_
              refine x_iinc (pc := 237) (v := nI (fr + i + 1)) (lv' := [(0, .ref M), (1, .int (nI c)), (2, .int (nI bi)), (3, .int (nI (st.length + 1))), (4, .int (nI (fr + i + 1))), (5, .int (nI tn)), (6, .int (nI (fct bi a2 a3 a4 (te % 60) (tn / 1000)))), (7, .int (nI ((tn / 100) % 10)))]) dX10_holds_237 rfl (nI_1 _) (by decide) rfl ?_
              refine x_goto (pc := 240) (tgt := 10) dX10_holds_240 (by decide) ?_
              refine X.keep [0, 1, 2, 3, 4] rfl ?_
              rw [show st.length + 1 = st2.length by rw [h9]; rfl]
              exact ih (i + 1) (by omega) _ st2 hst2 (by rw [h9]; exact ⟨by rw [up2_s, hbv]; rfl, pileIs_put (Nat.le_refl _) hp⟩) (fun a ha => (up2_row ha).trans (fj a ha))
            · skip
              refine x_iconst (pc := 210) (v := 1) dX10_holds_210 (by decide) ?_
              refine x_goto (pc := 211) (tgt := 233) dX10_holds_211 (by decide) ?_
              have hbv : testM bi a2 a3 a4 (te % 60) tn = true := by
                      unfold testM
                      rw [if_neg c173, if_pos c197]
                      exact decide_eq_true c207
              refine x_zastn (pc := 233) (a := st.length) dX10_holds_233 hM.s17 (by omega) (by omega) (by decide) ?_
              refine x_iinc (pc := 234) (v := nI (st.length + 1)) (lv' := [(0, .ref M), (1, .int (nI c)), (2, .int (nI bi)), (3, .int (nI (st.length + 1))), (4, .int (nI (fr + i))), (5, .int (nI tn)), (6, .int (nI (fct bi a2 a3 a4 (te % 60) (tn / 1000)))), (7, .int (nI ((tn / 100) % 10)))]) dX10_holds_234 rfl (nI_1 _) (by decide) rfl ?_
              refine x_iinc (pc := 237) (v := nI (fr + i + 1)) (lv' := [(0, .ref M), (1, .int (nI c)), (2, .int (nI bi)), (3, .int (nI (st.length + 1))), (4, .int (nI (fr + i + 1))), (5, .int (nI tn)), (6, .int (nI (fct bi a2 a3 a4 (te % 60) (tn / 1000)))), (7, .int (nI ((tn / 100) % 10)))]) dX10_holds_237 rfl (nI_1 _) (by decide) rfl ?_
              refine x_goto (pc := 240) (tgt := 10) dX10_holds_240 (by decide) ?_
              refine X.keep [0, 1, 2, 3, 4] rfl ?_
              rw [show st.length + 1 = st2.length by rw [h9]; rfl]
              exact ih (i + 1) (by omega) _ st2 hst2 (by rw [h9]; exact ⟨by rw [up2_s, hbv]; rfl, pileIs_put (Nat.le_refl _) hp⟩) (fun a ha => (up2_row ha).trans (fj a ha))
        · skip
          refine x_iload (pc := 176) dX10_holds_176 rfl ?_
          refine x_iload (pc := 178) dX10_holds_178 rfl ?_
          refine x_bipush (pc := 180) (v := 100) dX10_holds_180 (by decide) ?_
          refine x_iremn (pc := 182) (a := tn) (b := 100) dX10_holds_182 (by omega) (by decide) (by decide) ?_
          refine x_icmpn_ge (pc := 183) (tgt := 190) (a := (fct bi a2 a3 a4 (te % 60) (tn / 1000))) (b := (tn % 100)) dX10_holds_183 (by decide) (by omega) (by omega) (fun c183 => ?_) (fun c183 => ?_)
          · skip
            refine x_iconst (pc := 190) (v := 0) dX10_holds_190 (by decide) ?_
            refine x_goto (pc := 191) (tgt := 233) dX10_holds_191 (by decide) ?_
            have hbv : testM bi a2 a3 a4 (te % 60) tn = false := by
                    unfold testM
                    rw [if_pos c173]
                    exact decide_eq_false (Nat.not_lt.mpr c183)
            refine x_zastn (pc := 233) (a := st.length) dX10_holds_233 hM.s17 (by omega) (by omega) (by decide) ?_
            refine x_iinc (pc := 234) (v := nI (st.length + 1)) (lv' := [(0, .ref M), (1, .int (nI c)), (2, .int (nI bi)), (3, .int (nI (st.length + 1))), (4, .int (nI (fr + i))), (5, .int (nI tn)), (6, .int (nI (fct bi a2 a3 a4 (te % 60) (tn / 1000)))), (7, .int (nI ((tn / 100) % 10)))]) dX10_holds_234 rfl (nI_1 _) (by decide) rfl ?_
            refine x_iinc (pc := 237) (v := nI (fr + i + 1)) (lv' := [(0, .ref M), (1, .int (nI c)), (2, .int (nI bi)), (3, .int (nI (st.length + 1))), (4, .int (nI (fr + i + 1))), (5, .int (nI tn)), (6, .int (nI (fct bi a2 a3 a4 (te % 60) (tn / 1000)))), (7, .int (nI ((tn / 100) % 10)))]) dX10_holds_237 rfl (nI_1 _) (by decide) rfl ?_
            refine x_goto (pc := 240) (tgt := 10) dX10_holds_240 (by decide) ?_
            refine X.keep [0, 1, 2, 3, 4] rfl ?_
            rw [show st.length + 1 = st2.length by rw [h9]; rfl]
            exact ih (i + 1) (by omega) _ st2 hst2 (by rw [h9]; exact ⟨by rw [up2_s, hbv]; rfl, pileIs_put (Nat.le_refl _) hp⟩) (fun a ha => (up2_row ha).trans (fj a ha))
          · skip
            refine x_iconst (pc := 186) (v := 1) dX10_holds_186 (by decide) ?_
            refine x_goto (pc := 187) (tgt := 233) dX10_holds_187 (by decide) ?_
            have hbv : testM bi a2 a3 a4 (te % 60) tn = true := by
                    unfold testM
                    rw [if_pos c173]
                    exact decide_eq_true c183
            refine x_zastn (pc := 233) (a := st.length) dX10_holds_233 hM.s17 (by omega) (by omega) (by decide) ?_
            refine x_iinc (pc := 234) (v := nI (st.length + 1)) (lv' := [(0, .ref M), (1, .int (nI c)), (2, .int (nI bi)), (3, .int (nI (st.length + 1))), (4, .int (nI (fr + i))), (5, .int (nI tn)), (6, .int (nI (fct bi a2 a3 a4 (te % 60) (tn / 1000)))), (7, .int (nI ((tn / 100) % 10)))]) dX10_holds_234 rfl (nI_1 _) (by decide) rfl ?_
            refine x_iinc (pc := 237) (v := nI (fr + i + 1)) (lv' := [(0, .ref M), (1, .int (nI c)), (2, .int (nI bi)), (3, .int (nI (st.length + 1))), (4, .int (nI (fr + i + 1))), (5, .int (nI tn)), (6, .int (nI (fct bi a2 a3 a4 (te % 60) (tn / 1000)))), (7, .int (nI ((tn / 100) % 10)))]) dX10_holds_237 rfl (nI_1 _) (by decide) rfl ?_
            refine x_goto (pc := 240) (tgt := 10) dX10_holds_240 (by decide) ?_
            refine X.keep [0, 1, 2, 3, 4] rfl ?_
            rw [show st.length + 1 = st2.length by rw [h9]; rfl]
            exact ih (i + 1) (by omega) _ st2 hst2 (by rw [h9]; exact ⟨by rw [up2_s, hbv]; rfl, pileIs_put (Nat.le_refl _) hp⟩) (fun a ha => (up2_row ha).trans (fj a ha))
      · skip
        obtain ⟨a, b, r, hbr, h9⟩ : ∃ a b r, st = a :: b :: r ∧ st2 = (if v28 = -38 then b && a else b || a) :: r := by
                rw [← ev28] at hs2
                unfold stM at hs2
                rw [if_neg c34, if_pos (i32_lt c66)] at hs2
                match st, hs2 with
                | [], hs2 => cases hs2
                | [_], hs2 => cases hs2
                | a :: b :: r, hs2 => exact ⟨a, b, r, rfl, (Option.some.inj hs2).symm⟩
        subst hbr
        simp only [List.length_cons]
        have hl9 : r.length < 99 := by have := hsl; simp at this; omega
        refine x_iinc (pc := 69) (v := nI (r.length + 1)) (lv' := [(0, .ref M), (1, .int (nI c)), (2, .int (nI bi)), (3, .int (nI (r.length + 1))), (4, .int (nI (fr + i))), (5, .int v28)]) dX10_holds_69 rfl (pk_m1 _) (by decide) rfl ?_
        refine x_aload_n (pc := 72) dX10_holds_72 rfl rfl ?_
        refine x_getr (pc := 73) dX10_holds_73 kf_RX10_107 hM.s rfl hM.f17 ?_
        refine x_iload_n (pc := 76) dX10_holds_76 rfl rfl ?_
        refine x_iconst (pc := 77) (v := 1) dX10_holds_77 (by decide) ?_
        refine x_isubn (pc := 78) (a := (r.length + 1)) (b := 1) dX10_holds_78 (by omega) ?_
        rw [Nat.add_sub_cancel]
        refine x_iload (pc := 79) dX10_holds_79 rfl ?_
        refine x_bipush (pc := 81) (v := -38) dX10_holds_81 (by decide) ?_
        refine x_icmp_ne (pc := 83) (tgt := 114) dX10_holds_83 (by decide) (fun c83 => ?_) (fun c83 => ?_)
        · skip
          refine x_aload_n (pc := 114) dX10_holds_114 rfl rfl ?_
          refine x_getr (pc := 115) dX10_holds_115 kf_RX10_107 hM.s rfl hM.f17 ?_
          refine x_iload_n (pc := 118) dX10_holds_118 rfl rfl ?_
          refine x_iconst (pc := 119) (v := 1) dX10_holds_119 (by decide) ?_
          refine x_isubn (pc := 120) (a := (r.length + 1)) (b := 1) dX10_holds_120 (by omega) ?_
          rw [Nat.add_sub_cancel]
          refine x_zaldn (pc := 121) (a := r.length) dX10_holds_121 hM.s17 (by omega) (by omega) ?_
          refine x_if_ne (pc := 122) (tgt := 134) dX10_holds_122 (by decide) (fun c122 => ?_) (fun c122 => ?_)
          · skip
            refine x_iconst (pc := 134) (v := 1) dX10_holds_134 (by decide) ?_
            refine x_goto (pc := 135) (tgt := 139) dX10_holds_135 (by decide) ?_
            have hbv : (if v28 = -38 then b && a else b || a) = true := by
                    have q1 := hp.1
                    have q2 := hp.2.1
                    simp only [List.length_cons] at q1
                    rw [if_neg c83]
                    rw [q2] at c122
                    cases a <;> cases b <;> simp_all
            refine x_zastn (pc := 139) (a := r.length) dX10_holds_139 hM.s17 (by omega) (by omega) (by decide) ?_
            refine x_goto (pc := 140) (tgt := 237) dX10_holds_140 (by decide) ?_
            refine x_iinc (pc := 237) (v := nI (fr + i + 1)) (lv' := [(0, .ref M), (1, .int (nI c)), (2, .int (nI bi)), (3, .int (nI (r.length + 1))), (4, .int (nI (fr + i + 1))), (5, .int v28)]) dX10_holds_237 rfl (nI_1 _) (by decide) rfl ?_
            refine x_goto (pc := 240) (tgt := 10) dX10_holds_240 (by decide) ?_
            refine X.keep [0, 1, 2, 3, 4] rfl ?_
            rw [show r.length + 1 = st2.length by rw [h9]; rfl]
            exact ih (i + 1) (by omega) _ st2 hst2 (by rw [h9]; exact ⟨by rw [up2_s, hbv]; rfl, pileIs_put (Nat.le_refl _) hp.2.2⟩) (fun a ha => (up2_row ha).trans (fj a ha))
          · skip
            refine x_aload_n (pc := 125) dX10_holds_125 rfl rfl ?_
            refine x_getr (pc := 126) dX10_holds_126 kf_RX10_107 hM.s rfl hM.f17 ?_
            refine x_iload_n (pc := 129) dX10_holds_129 rfl rfl ?_
            refine x_zaldn (pc := 130) (a := (r.length + 1)) dX10_holds_130 hM.s17 (by omega) (by omega) ?_
            refine x_if_eq (pc := 131) (tgt := 138) dX10_holds_131 (by decide) (fun c131 => ?_) (fun c131 => ?_)
            · skip
              refine x_iconst (pc := 138) (v := 0) dX10_holds_138 (by decide) ?_
              have hbv : (if v28 = -38 then b && a else b || a) = false := by
                      have q1 := hp.1
                      have q2 := hp.2.1
                      simp only [List.length_cons] at q1
                      rw [if_neg c83]
                      rw [q2] at c122; rw [q1] at c131
                      cases a <;> cases b <;> simp_all
              refine x_zastn (pc := 139) (a := r.length) dX10_holds_139 hM.s17 (by omega) (by omega) (by decide) ?_
              refine x_goto (pc := 140) (tgt := 237) dX10_holds_140 (by decide) ?_
              refine x_iinc (pc := 237) (v := nI (fr + i + 1)) (lv' := [(0, .ref M), (1, .int (nI c)), (2, .int (nI bi)), (3, .int (nI (r.length + 1))), (4, .int (nI (fr + i + 1))), (5, .int v28)]) dX10_holds_237 rfl (nI_1 _) (by decide) rfl ?_
              refine x_goto (pc := 240) (tgt := 10) dX10_holds_240 (by decide) ?_
              refine X.keep [0, 1, 2, 3, 4] rfl ?_
              rw [show r.length + 1 = st2.length by rw [h9]; rfl]
              exact ih (i + 1) (by omega) _ st2 hst2 (by rw [h9]; exact ⟨by rw [up2_s, hbv]; rfl, pileIs_put (Nat.le_refl _) hp.2.2⟩) (fun a ha => (up2_row ha).trans (fj a ha))
            · skip
              refine x_iconst (pc := 134) (v := 1) dX10_holds_134 (by decide) ?_
              refine x_goto (pc := 135) (tgt := 139) dX10_holds_135 (by decide) ?_
              have hbv : (if v28 = -38 then b && a else b || a) = true := by
                      have q1 := hp.1
                      have q2 := hp.2.1
                      simp only [List.length_cons] at q1
                      rw [if_neg c83]
                      rw [q2] at c122; rw [q1] at c131
                      cases a <;> cases b <;> simp_all
              refine x_zastn (pc := 139) (a := r.length) dX10_holds_139 hM.s17 (by omega) (by omega) (by decide) ?_
              refine x_goto (pc := 140) (tgt := 237) dX10_holds_140 (by decide) ?_
              refine x_iinc (pc := 237) (v := nI (fr + i + 1)) (lv' := [(0, .ref M), (1, .int (nI c)), (2, .int (nI bi)), (3, .int (nI (r.length + 1))), (4, .int (nI (fr + i + 1))), (5, .int v28)]) dX10_holds_237 rfl (nI_1 _) (by decide) rfl ?_
              refine x_goto (pc := 240) (tgt := 10) dX10_holds_240 (by decide) ?_
              refine X.keep [0, 1, 2, 3, 4] rfl ?_
              rw [show r.length + 1 = st2.length by rw [h9]; rfl]
              exact ih (i + 1) (by omega) _ st2 hst2 (by rw [h9]; exact ⟨by rw [up2_s, hbv]; rfl, pileIs_put (Nat.le_refl _) hp.2.2⟩) (fun a ha => (up2_row ha).trans (fj a ha))
        · skip
          refine x_aload_n (pc := 86) dX10_holds_86 rfl rfl ?_
          refine x_getr (pc := 87) dX10_holds_87 kf_RX10_107 hM.s rfl hM.f17 ?_
          refine x_iload_n (pc := 90) dX10_holds_90 rfl rfl ?_
          refine x_iconst (pc := 91) (v := 1) dX10_holds_91 (by decide) ?_
          refine x_isubn (pc := 92) (a := (r.length + 1)) (b := 1) dX10_holds_92 (by omega) ?_
          rw [Nat.add_sub_cancel]
          refine x_zaldn (pc := 93) (a := r.length) dX10_holds_93 hM.s17 (by omega) (by omega) ?_
          refine x_if_eq (pc := 94) (tgt := 110) dX10_holds_94 (by decide) (fun c94 => ?_) (fun c94 => ?_)
          · skip
            refine x_iconst (pc := 110) (v := 0) dX10_holds_110 (by decide) ?_
            refine x_goto (pc := 111) (tgt := 139) dX10_holds_111 (by decide) ?_
            have hbv : (if v28 = -38 then b && a else b || a) = false := by
                    have q1 := hp.1
                    have q2 := hp.2.1
                    simp only [List.length_cons] at q1
                    rw [if_pos c83]
                    rw [q2] at c94
                    cases a <;> cases b <;> simp_all
            refine x_zastn (pc := 139) (a := r.length) dX10_holds_139 hM.s17 (by omega) (by omega) (by decide) ?_
            refine x_goto (pc := 140) (tgt := 237) dX10_holds_140 (by decide) ?_
            refine x_iinc (pc := 237) (v := nI (fr + i + 1)) (lv' := [(0, .ref M), (1, .int (nI c)), (2, .int (nI bi)), (3, .int (nI (r.length + 1))), (4, .int (nI (fr + i + 1))), (5, .int v28)]) dX10_holds_237 rfl (nI_1 _) (by decide) rfl ?_
            refine x_goto (pc := 240) (tgt := 10) dX10_holds_240 (by decide) ?_
            refine X.keep [0, 1, 2, 3, 4] rfl ?_
            rw [show r.length + 1 = st2.length by rw [h9]; rfl]
            exact ih (i + 1) (by omega) _ st2 hst2 (by rw [h9]; exact ⟨by rw [up2_s, hbv]; rfl, pileIs_put (Nat.le_refl _) hp.2.2⟩) (fun a ha => (up2_row ha).trans (fj a ha))
          · skip
            refine x_aload_n (pc := 97) dX10_holds_97 rfl rfl ?_
            refine x_getr (pc := 98) dX10_holds_98 kf_RX10_107 hM.s rfl hM.f17 ?_
            refine x_iload_n (pc := 101) dX10_holds_101 rfl rfl ?_
            refine x_zaldn (pc := 102) (a := (r.length + 1)) dX10_holds_102 hM.s17 (by omega) (by omega) ?_
            refine x_if_eq (pc := 103) (tgt := 110) dX10_holds_103 (by decide) (fun c103 => ?_) (fun c103 => ?_)
            · skip
              refine x_iconst (pc := 110) (v := 0) dX10_holds_110 (by decide) ?_
              refine x_goto (pc := 111) (tgt := 139) dX10_holds_111 (by decide) ?_
              have hbv : (if v28 = -38 then b && a else b || a) = false := by
                      have q1 := hp.1
                      have q2 := hp.2.1
                      simp only [List.length_cons] at q1
                      rw [if_pos c83]
                      rw [q2] at c94; rw [q1] at c103
                      cases a <;> cases b <;> simp_all
              refine x_zastn (pc := 139) (a := r.length) dX10_holds_139 hM.s17 (by omega) (by omega) (by decide) ?_
              refine x_goto (pc := 140) (tgt := 237) dX10_holds_140 (by decide) ?_
              refine x_iinc (pc := 237) (v := nI (fr + i + 1)) (lv' := [(0, .ref M), (1, .int (nI c)), (2, .int (nI bi)), (3, .int (nI (r.length + 1))), (4, .int (nI (fr + i + 1))), (5, .int v28)]) dX10_holds_237 rfl (nI_1 _) (by decide) rfl ?_
              refine x_goto (pc := 240) (tgt := 10) dX10_holds_240 (by decide) ?_
              refine X.keep [0, 1, 2, 3, 4] rfl ?_
              rw [show r.length + 1 = st2.length by rw [h9]; rfl]
              exact ih (i + 1) (by omega) _ st2 hst2 (by rw [h9]; exact ⟨by rw [up2_s, hbv]; rfl, pileIs_put (Nat.le_refl _) hp.2.2⟩) (fun a ha => (up2_row ha).trans (fj a ha))
            · skip
              refine x_iconst (pc := 106) (v := 1) dX10_holds_106 (by decide) ?_
              refine x_goto (pc := 107) (tgt := 139) dX10_holds_107 (by decide) ?_
              have hbv : (if v28 = -38 then b && a else b || a) = true := by
                      have q1 := hp.1
                      have q2 := hp.2.1
                      simp only [List.length_cons] at q1
                      rw [if_pos c83]
                      rw [q2] at c94; rw [q1] at c103
                      cases a <;> cases b <;> simp_all
              refine x_zastn (pc := 139) (a := r.length) dX10_holds_139 hM.s17 (by omega) (by omega) (by decide) ?_
              refine x_goto (pc := 140) (tgt := 237) dX10_holds_140 (by decide) ?_
              refine x_iinc (pc := 237) (v := nI (fr + i + 1)) (lv' := [(0, .ref M), (1, .int (nI c)), (2, .int (nI bi)), (3, .int (nI (r.length + 1))), (4, .int (nI (fr + i + 1))), (5, .int v28)]) dX10_holds_237 rfl (nI_1 _) (by decide) rfl ?_
              refine x_goto (pc := 240) (tgt := 10) dX10_holds_240 (by decide) ?_
              refine X.keep [0, 1, 2, 3, 4] rfl ?_
              rw [show r.length + 1 = st2.length by rw [h9]; rfl]
              exact ih (i + 1) (by omega) _ st2 hst2 (by rw [h9]; exact ⟨by rw [up2_s, hbv]; rfl, pileIs_put (Nat.le_refl _) hp.2.2⟩) (fun a ha => (up2_row ha).trans (fj a ha))
    · skip
      obtain ⟨b, r, hbr, h9⟩ : ∃ b r, st = b :: r ∧ st2 = (!b) :: r := by
              rw [← ev28] at hs2
              unfold stM at hs2
              rw [if_pos c34] at hs2
              cases st with
              | nil => cases hs2
              | cons b r => exact ⟨b, r, rfl, (Option.some.inj hs2).symm⟩
      subst hbr
      simp only [List.length_cons]
      have hl9 : r.length < 100 := by have := hsl; simp at this; omega
      refine x_aload_n (pc := 37) dX10_holds_37 rfl rfl ?_
      refine x_getr (pc := 38) dX10_holds_38 kf_RX10_107 hM.s rfl hM.f17 ?_
      refine x_iload_n (pc := 41) dX10_holds_41 rfl rfl ?_
      refine x_iconst (pc := 42) (v := 1) dX10_holds_42 (by decide) ?_
      refine x_isubn (pc := 43) (a := (r.length + 1)) (b := 1) dX10_holds_43 (by omega) ?_
      rw [Nat.add_sub_cancel]
      refine x_aload_n (pc := 44) dX10_holds_44 rfl rfl ?_
      refine x_getr (pc := 45) dX10_holds_45 kf_RX10_107 hM.s rfl hM.f17 ?_
      refine x_iload_n (pc := 48) dX10_holds_48 rfl rfl ?_
      refine x_iconst (pc := 49) (v := 1) dX10_holds_49 (by decide) ?_
      refine x_isubn (pc := 50) (a := (r.length + 1)) (b := 1) dX10_holds_50 (by omega) ?_
      rw [Nat.add_sub_cancel]
      refine x_zaldn (pc := 51) (a := r.length) dX10_holds_51 hM.s17 (by omega) (by omega) ?_
      refine x_if_ne (pc := 52) (tgt := 59) dX10_holds_52 (by decide) (fun c52 => ?_) (fun c52 => ?_)
      · skip
        refine x_iconst (pc := 59) (v := 0) dX10_holds_59 (by decide) ?_
        have hbv : b = true := by have q := hp.1; rw [q] at c52; cases b <;> simp_all
        refine x_zastn (pc := 60) (a := r.length) dX10_holds_60 hM.s17 (by omega) (by omega) (by decide) ?_
        refine x_goto (pc := 61) (tgt := 237) dX10_holds_61 (by decide) ?_
        refine x_iinc (pc := 237) (v := nI (fr + i + 1)) (lv' := [(0, .ref M), (1, .int (nI c)), (2, .int (nI bi)), (3, .int (nI (r.length + 1))), (4, .int (nI (fr + i + 1))), (5, .int v28)]) dX10_holds_237 rfl (nI_1 _) (by decide) rfl ?_
        refine x_goto (pc := 240) (tgt := 10) dX10_holds_240 (by decide) ?_
        refine X.keep [0, 1, 2, 3, 4] rfl ?_
        rw [show r.length + 1 = st2.length by rw [h9]; rfl]
        exact ih (i + 1) (by omega) _ st2 hst2 (by rw [h9]; exact ⟨by rw [up2_s]; simp [hbv], pileIs_put (Nat.le_refl _) hp.2⟩) (fun a ha => (up2_row ha).trans (fj a ha))
      · skip
        refine x_iconst (pc := 55) (v := 1) dX10_holds_55 (by decide) ?_
        refine x_goto (pc := 56) (tgt := 60) dX10_holds_56 (by decide) ?_
        have hbv : b = false := by have q := hp.1; rw [q] at c52; cases b <;> simp_all
        refine x_zastn (pc := 60) (a := r.length) dX10_holds_60 hM.s17 (by omega) (by omega) (by decide) ?_
        refine x_goto (pc := 61) (tgt := 237) dX10_holds_61 (by decide) ?_
        refine x_iinc (pc := 237) (v := nI (fr + i + 1)) (lv' := [(0, .ref M), (1, .int (nI c)), (2, .int (nI bi)), (3, .int (nI (r.length + 1))), (4, .int (nI (fr + i + 1))), (5, .int v28)]) dX10_holds_237 rfl (nI_1 _) (by decide) rfl ?_
        refine x_goto (pc := 240) (tgt := 10) dX10_holds_240 (by decide) ?_
        refine X.keep [0, 1, 2, 3, 4] rfl ?_
        rw [show r.length + 1 = st2.length by rw [h9]; rfl]
        exact ih (i + 1) (by omega) _ st2 hst2 (by rw [h9]; exact ⟨by rw [up2_s]; simp [hbv], pileIs_put (Nat.le_refl _) hp.2⟩) (fun a ha => (up2_row ha).trans (fj a ha))

set_option maxHeartbeats 4000000 in
set_option maxRecDepth 100000 in
theorem m_holds {T : xT} {n : Nat} {sh : Nat → Nat × Nat} {I : xI} {R : xR} {L : xL} {P : xPost} {M bi a2 a3 a4 te c fr kk : Nat} {v : Bool} (hM : xModel sh R M) (hb6 : bi < 6) (h2 : I (M + 5) bi = nI a2) (h3 : I M 33 = nI a3) (h4 : I M 34 = nI a4) (h5 : I M 28 = nI te) (hte : te < 1000000) (hc48 : c < 48) (hfr : I (M + 11) c = nI fr) (hto : I (M + 12) c = nI (fr + kk)) (h600 : fr + kk ≤ 600) (hev : evM bi a2 a3 a4 (te % 60) (I (M + 13)) fr kk = some [v]) (hab : a2 < 100 ∧ a3 < 100 ∧ a4 < 100) (K : ∀ I2 : xI, (∀ a, a ≠ M + 18 → I2 a = I a) → P (n, sh, 0, 0) I2 R L (some (.int (if v = true then 1 else 0)))) : XM T zX10_holds 1 [.ref M, .int (nI c), .int (nI bi)] n sh I R L P := by
  refine x_iconst (pc := 0) (v := 0) dX10_holds_0 (by decide) ?_
  refine x_istore_n (pc := 1) (lv' := [(0, .ref M), (1, .int (nI c)), (2, .int (nI bi)), (3, .int 0)]) dX10_holds_1 rfl (by decide) rfl ?_
  refine x_aload_n (pc := 2) dX10_holds_2 rfl rfl ?_
  refine x_getr (pc := 3) dX10_holds_3 kf_RX10_68 hM.s rfl hM.f10 ?_
  refine x_iload_n (pc := 6) dX10_holds_6 rfl rfl ?_
  refine x_ialdn (pc := 7) (a := c) dX10_holds_7 hM.s10 (by omega) (by omega) ?_
  rw [hfr]
  refine x_istore (pc := 8) (lv' := [(0, .ref M), (1, .int (nI c)), (2, .int (nI bi)), (3, .int 0), (4, .int (nI fr))]) dX10_holds_8 (by decide) rfl ?_
  exact lm_holds hM hb6 h2 h3 h4 h5 hte hc48 hfr hto h600 hev hab K kk 0 (by omega) I [] rfl trivial (fun _ _ => rfl)

