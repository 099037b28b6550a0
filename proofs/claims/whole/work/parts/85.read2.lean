/-! ===== the reader: F, T, E ===== -/
def rdP (rd : Nat) (I J : xI) : Prop := ∀ a, (a < rd ∨ a = rd + 1 ∨ a = rd + 2 ∨ a = rd + 3 ∨ rd + 10 ≤ a) → J a = I a
theorem rdP.rf {rd : Nat} {I : xI} : rdP rd I I := fun _ _ => rfl
theorem rdP.tr {rd : Nat} {I J J' : xI} (h : rdP rd I J) (h' : rdP rd J J') : rdP rd I J' := fun a p => (h' a p).trans (h a p)
theorem rdP.nx {rd : Nat} {I : xI} {x : Int32} : rdP rd I (up2 I rd 2 x) := fun a p => up2_row (by omega)
theorem rdP.ne {rd : Nat} {I J : xI} (h : ∀ a, a ≠ rd → J a = I a) : rdP rd I J := fun a p => h a (by omega)
theorem rdP.rg {rd : Nat} {I J : xI} (h : rgP (rd + 3) I J) : rdP rd I J := fun a p => h a (by omega)
/-- the reader at a place with parts -/
def RDS (I : xI) (rd : Nat) (t : xX) (p : Nat) (l : List (Nat × Nat × Nat)) : Prop := bRow I (rd + 1) t.1 t.2 ∧ I rd 2 = nI p ∧ p ≤ t.1 ∧ DR I (rd + 3) l ∧ l.length ≤ p
def RDX (I : xI) (rd : Nat) (t : xX) (p : Nat) : Prop := bRow I (rd + 1) t.1 t.2 ∧ I rd 2 = nI p ∧ p ≤ t.1 ∧ ∃ l, DR I (rd + 3) l
theorem bRow.keepP {I J : xI} {r m : Nat} {f : Nat → Nat} (h : bRow I r m f) (e0 : J r = I r) (e1 : J (r + 1) = I (r + 1)) : bRow J r m f := ⟨(congrFun e0 1).trans h.1, fun i hi => (congrFun e1 i).trans (h.2 i hi)⟩
theorem RDS.x {I : xI} {rd p : Nat} {t : xX} {l : List (Nat × Nat × Nat)} (h : RDS I rd t p l) : RDX I rd t p := ⟨h.1, h.2.1, h.2.2.1, l, h.2.2.2.1⟩
theorem RDS.go {I J : xI} {rd p q : Nat} {t : xX} {l : List (Nat × Nat × Nat)} (h : RDS I rd t p l) (f : ∀ a, a ≠ rd → J a = I a) (e : J rd 2 = nI q) (hq : q ≤ t.1) (hpq : p ≤ q) : RDS J rd t q l := ⟨h.1.keepP (f _ (by omega)) (f _ (by omega)), e, hq, h.2.2.2.1.keep (fun a h1 h2 => f a (by omega)), by have := h.2.2.2.2; omega⟩
theorem RDS.nx {I : xI} {rd p : Nat} {t : xX} {l : List (Nat × Nat × Nat)} (h : RDS I rd t p l) (hp : p < t.1) : RDS (up2 I rd 2 (nI (p + 1))) rd t (p + 1) l := h.go (fun a q => up2_row q) up2_s hp (by omega)
theorem RDX.ad {I J : xI} {rd p : Nat} {t : xX} {x : Nat × Nat × Nat} {l : List (Nat × Nat × Nat)} (h : RDX I rd t p) (f : rgP (rd + 3) I J) (hd : DR J (rd + 3) (adL l x)) : RDX J rd t p := ⟨h.1.keepP (f _ (by omega)) (f _ (by omega)), (congrFun (f rd (by omega)) 2).trans h.2.1, h.2.2.1, _, hd⟩
theorem RDS.ad {I J : xI} {rd p : Nat} {t : xX} {x : Nat × Nat × Nat} {l l' : List (Nat × Nat × Nat)} (h : RDS I rd t p l) (hx : XOK t) (f : rgP (rd + 3) I J) (hd : DR J (rd + 3) (adL l x)) (hl : l.length + 1 ≤ p) (e : l' = l ++ [x]) : RDS J rd t p l' := by
  have h3 := h.2.2.1
  have h4 := hx.1
  have e2 : adL l x = l ++ [x] := if_pos (by omega)
  rw [e2] at hd
  rw [e]
  exact ⟨h.1.keepP (f _ (by omega)) (f _ (by omega)), (congrFun (f rd (by omega)) 2).trans h.2.1, h3, hd, by rw [List.length_append]; exact hl⟩
section TSTS
variable {nx : Nat → Nat} {p q k : Nat}
theorem tstF_0 (h : ¬ isLt (nx p)) : tstF nx p = (p, none) := if_neg h
theorem tstF_1 (h : isLt (nx p)) (h' : ¬ isSg (nx (p + 1))) : tstF nx p = (p + 1, none) := (if_pos h).trans (if_neg h')
theorem tstF_2 (h : isLt (nx p)) (h' : isSg (nx (p + 1))) (hn : numF nx (p + 2) = none) : tstF nx p = (p + 2, none) := (if_pos h).trans ((if_pos h').trans (by rw [hn]))
theorem tstF_3 (h : isLt (nx p)) (h' : isSg (nx (p + 1))) (hn : numF nx (p + 2) = some (q, k)) : tstF nx p = (q, some (eT (nx p) (nx (p + 1)) k)) := (if_pos h).trans ((if_pos h').trans (by rw [hn]))
end TSTS
theorem nC_lit {a : Nat} (h : a < 256) : nC a = nI a := if_pos h

set_option maxHeartbeats 4000000 in
set_option maxRecDepth 100000 in
theorem l_rO4 {T : xT} {n : Nat} {sh : Nat → Nat × Nat} {I : xI} {R : xR} {L : xL} {P : xPost} {lr nw im tr rd hu se ac M : Nat} (hG : GEO sh R lr nw im tr rd hu se ac M) {t : xX} (hx : XOK t) {p wi : Nat} {l : List (Nat × Nat × Nat)} (hw4 : wi ≤ 4) (K : ∀ (J : xI) (j : Nat), BGs (nxX t) wi p j → RDS J rd t (p + j) l → rdP rd I J → X T zX3_readOne 2 0 0 P 22 [(0, .ref rd), (1, .int (nI wi)), (2, .int (nI (wi + j)))] [] (n, sh, 0, 0) J R L)  : ∀ (w i : Nat), i + w = 4 - wi → ∀ (J : xI), RDS J rd t (p + i) l → (∀ k, k < i → nxX t (p + k) = 33) → rdP rd I J → X T zX3_readOne 2 0 0 P 2 [(0, .ref rd), (1, .int (nI wi)), (2, .int (nI (wi + i)))] [] (n, sh, 0, 0) (J) R L := by
  intro w
  induction w with
  | zero =>
    intro i hw J hs hb fj
    have hz : i = 4 - wi := by omega
    refine x_iload_n (pc := 2) dX3_readOne_2 rfl rfl ?_
    refine x_iconst (pc := 3) (v := 4) dX3_readOne_3 (by decide) ?_
    refine x_icmpn_ge_t (pc := 4) (tgt := 22) (a := (wi + i)) (b := 4) dX3_readOne_4 (by decide) (by omega) (by decide) (by omega) ?_
    exact X.keep [0, 1, 2] rfl (K J i ⟨by omega, hb, Or.inl (by omega)⟩ hs fj)
  | succ w ih =>
    intro i hw J hs hb fj
    have hi : i < 4 - wi := by omega
    refine x_iload_n (pc := 2) dX3_readOne_2 rfl rfl ?_
    refine x_iconst (pc := 3) (v := 4) dX3_readOne_3 (by decide) ?_
    refine x_icmpn_ge_f (pc := 4) (tgt := 22) (a := (wi + i)) (b := 4) dX3_readOne_4 (by decide) (by omega) (by decide) (by omega) ?_
    refine x_aload_n (pc := 7) dX3_readOne_7 rfl rfl ?_
    refine x_bipush (pc := 8) (v := 33) dX3_readOne_8 (by decide) ?_
    refine x_callV (pc := 10) (As := [.int _]) dX3_readOne_10 km_X3_accept kv_X3_accept kl_RX3_34 hG.g_rd rfl rfl (by decide) ⟨Nat.le_refl _, Nat.le_refl _⟩ rfl (Nat.le_of_ble_eq_true rfl) (Nat.le_of_ble_eq_true rfl) (c_accept (c := 33) hG hs.1 hx hs.2.1 hs.2.2.1 (by decide) (fun hc hlt => ⟨rfl, rfl, ?_⟩) (fun hc => ⟨rfl, rfl, ?_⟩))
    · skip
      refine x_if_eq_f (pc := 13) (tgt := 22) dX3_readOne_13 (by decide) (by decide) ?_
      refine x_iinc (pc := 16) (v := nI (wi + i + 1)) (lv' := [(0, .ref rd), (1, .int (nI wi)), (2, .int (nI (wi + i + 1)))]) dX3_readOne_16 rfl (nI_1 _) (by decide) rfl ?_
      refine x_goto (pc := 19) (tgt := 2) dX3_readOne_19 (by decide) ?_
      refine ih (i + 1) (by omega) _ (hs.nx hlt) (fun k hk => ?_) (fj.tr rdP.nx)
      rcases Nat.lt_succ_iff_lt_or_eq.mp hk with z | z
      · exact hb k z
      · rw [z]; exact hc
    · skip
      refine x_if_eq_t (pc := 13) (tgt := 22) dX3_readOne_13 (by decide) (by decide) ?_
      exact X.keep [0, 1, 2] rfl (K J i ⟨by omega, hb, Or.inr hc⟩ hs fj)

set_option maxHeartbeats 4000000 in
set_option maxRecDepth 100000 in
theorem l_rO4e {T : xT} {n : Nat} {sh : Nat → Nat × Nat} {I : xI} {R : xR} {L : xL} {P : xPost} {lr nw im tr rd hu se ac M : Nat} (hG : GEO sh R lr nw im tr rd hu se ac M) {t : xX} (hx : XOK t) {p wi : Nat} {l : List (Nat × Nat × Nat)} {j q : Nat} {e : xCE} (hs : RDS I rd t q (l ++ e.1)) (hw4 : wi + j ≤ 4) (hl : l.length + e.1.length + j ≤ q) (K : ∀ J : xI, RDS J rd t q (l ++ (eN j e).1) → rdP rd I J → P (n, sh, 0, 0) J R L (some (.int 1)))  :  X T zX3_readOne 2 0 0 P 183 [(0, .ref rd), (1, .int (nI wi)), (2, .int (nI (wi + j)))] [] (n, sh, 0, 0) (I) R L := by
  refine x_iload_n (pc := 183) dX3_readOne_183 rfl rfl ?_
  refine x_iload_n (pc := 184) dX3_readOne_184 rfl rfl ?_
  refine x_isub (pc := 185) dX3_readOne_185 ?_
  rw [show nI (wi + j) - nI wi = nI j from by rw [pk_sub (by omega), Nat.add_sub_cancel_left]]
  refine x_iconst (pc := 186) (v := 2) dX3_readOne_186 (by decide) ?_
  refine x_iremn (pc := 187) (a := j) (b := 2) dX3_readOne_187 (by omega) (by decide) (by decide) ?_
  refine x_ifn_eq (pc := 188) (tgt := 202) (a := (j % 2)) dX3_readOne_188 (by decide) (by omega) (fun c188 => ?_) (fun c188 => ?_)
  · skip
    refine x_iconst (pc := 202) (v := 1) dX3_readOne_202 (by decide) ?_
    refine x_ireturn (pc := 203) dX3_readOne_203 ⟨_, rfl, by decide⟩ ⟨Nat.le_refl _, Nat.le_refl _⟩ ?_
    first
    | exact K J (hs.ad hx fJ dJ (by rw [List.length_append]; omega) (by show l ++ (e.1 ++ (if j % 2 = 1 then [(33, 0, 0)] else [])) = _; rw [if_pos (by omega), List.append_assoc])) (rdP.rg fJ)
    | exact K I (by rw [show l ++ (eN j e).1 = l ++ e.1 from by show l ++ (e.1 ++ (if j % 2 = 1 then [(33, 0, 0)] else [])) = _; rw [if_neg (by omega), List.append_nil]]; exact hs) rdP.rf
  · skip
    refine x_aload_n (pc := 191) dX3_readOne_191 rfl rfl ?_
    refine x_getr (pc := 192) dX3_readOne_192 kf_RX3_23 hG.g_rd rfl hG.g_rd1 ?_
    refine x_bipush (pc := 195) (v := 33) dX3_readOne_195 (by decide) ?_
    refine x_iconst (pc := 197) (v := 0) dX3_readOne_197 (by decide) ?_
    refine x_iconst (pc := 198) (v := 0) dX3_readOne_198 (by decide) ?_
    refine x_callV (pc := 199) (As := [.int _, .int _, .int _]) dX3_readOne_199 km_X4_add kv_X4_add kl_RX3_69 hG.g_draft.1 rfl rfl (by decide) ⟨Nat.le_refl _, Nat.le_refl _⟩ rfl (Nat.le_of_ble_eq_true rfl) (Nat.le_of_ble_eq_true rfl) (c_rgAdd (p := 33) (s := 0) (k := 0) hG.g_draft hs.2.2.2.1 (fun J dJ fJ => ⟨rfl, rfl, ?_⟩))
    refine x_iconst (pc := 202) (v := 1) dX3_readOne_202 (by decide) ?_
    refine x_ireturn (pc := 203) dX3_readOne_203 ⟨_, rfl, by decide⟩ ⟨Nat.le_refl _, Nat.le_refl _⟩ ?_
    first
    | exact K J (hs.ad hx fJ dJ (by rw [List.length_append]; omega) (by show l ++ (e.1 ++ (if j % 2 = 1 then [(33, 0, 0)] else [])) = _; rw [if_pos (by omega), List.append_assoc])) (rdP.rg fJ)
    | exact K I (by rw [show l ++ (eN j e).1 = l ++ e.1 from by show l ++ (e.1 ++ (if j % 2 = 1 then [(33, 0, 0)] else [])) = _; rw [if_neg (by omega), List.append_nil]]; exact hs) rdP.rf

set_option maxHeartbeats 4000000 in
set_option maxRecDepth 100000 in
theorem l_rO4c {T : xT} {n : Nat} {sh : Nat → Nat × Nat} {I : xI} {R : xR} {L : xL} {P : xPost} {lr nw im tr rd hu se ac M : Nat} (hG : GEO sh R lr nw im tr rd hu se ac M) {t : xX} (hx : XOK t) {p wi : Nat} {l : List (Nat × Nat × Nat)} {j : Nat} (hb : BGs (nxX t) wi p j) (h4 : wi + j = 4 ∨ nxX t (p + j) ≠ 40) (hlt : isLt (nxX t (p + j))) (hsg : isSg (nxX t (p + j + 1))) (hs : RDS I rd t (p + j + 1) l) (hl : l.length ≤ p) (K1 : ∀ (J : xI) (q : Nat) (e : xCE), PD (nxX t) 0 wi p none (q, some e) → RDS J rd t q (l ++ e.1) → rdP rd I J → P (n, sh, 0, 0) J R L (some (.int 1))) (K0 : ∀ (J : xI) (q : Nat), PD (nxX t) 0 wi p none (q, none) → RDX J rd t q → rdP rd I J → P (n, sh, 0, 0) J R L (some (.int 0)))  :  X T zX3_readOne 2 0 0 P 147 [(0, .ref rd), (1, .int (nI wi)), (2, .int (nI (wi + j))), (3, .int (nI (nxX t (p + j)))), (4, .int (nI (nxX t (p + j + 1))))] [] (n, sh, 0, 0) (I) R L := by
  have x100 := hx.1
  have l1 : p + j + 1 < t.1 := by
    have : 60 ≤ nxX t (p + j + 1) ∧ nxX t (p + j + 1) ≤ 62 := hsg
    exact nxX_lt rfl (by omega)
  have hs2 := hs.nx l1
  refine x_aload_n (pc := 147) dX3_readOne_147 rfl rfl ?_
  refine x_dup (pc := 148) dX3_readOne_148 rfl ?_
  refine x_get (pc := 149) dX3_readOne_149 kf_RX3_27 hG.g_rd rfl ?_
  rw [hs.2.1]
  refine x_iconst (pc := 152) (v := 1) dX3_readOne_152 (by decide) ?_
  refine x_iaddn (pc := 153) (a := (p + j + 1)) (b := 1) dX3_readOne_153 ?_
  refine x_put (pc := 154) dX3_readOne_154 kf_RX3_27 hG.g_rd rfl (Or.inl kb_3_2) ?_
  refine x_aload_n (pc := 157) dX3_readOne_157 rfl rfl ?_
  refine x_callV (pc := 158) (As := []) dX3_readOne_158 km_X3_readNumber kv_X3_readNumber kl_RX3_59 hG.g_rd rfl rfl (by decide) ⟨Nat.le_refl _, Nat.le_refl _⟩ rfl (Nat.le_of_ble_eq_true rfl) (Nat.le_of_ble_eq_true rfl) (c_readNumber (p := p + j + 2) hG hs2.1 hx hs2.2.1 hs2.2.2.1 (fun q k hn hq J eJ fJ => ⟨rfl, rfl, ?_⟩) (fun hn => ⟨rfl, rfl, ?_⟩))
  · skip
    have hk := (numF_p hn).2
    have hq1 := (numF_p hn).1
    have hs3 := hs2.go fJ eJ hq (show p + j + 1 + 1 ≤ q by have : p + j + 2 + 1 ≤ q := hq1; omega)
    refine x_istore (pc := 161) (lv' := [(0, .ref rd), (1, .int (nI wi)), (2, .int (nI (wi + j))), (3, .int (nI (nxX t (p + j)))), (4, .int (nI (nxX t (p + j + 1)))), (5, .int (nI k))]) dX3_readOne_161 (by decide) rfl ?_
    refine x_iload (pc := 163) dX3_readOne_163 rfl ?_
    refine x_iconst (pc := 165) (v := -1) dX3_readOne_165 (by decide) ?_
    refine x_icmp_ne_t (pc := 166) (tgt := 171) dX3_readOne_166 (by decide) (nI_nem (by omega)) ?_
    refine x_aload_n (pc := 171) dX3_readOne_171 rfl rfl ?_
    refine x_getr (pc := 172) dX3_readOne_172 kf_RX3_23 hG.g_rd rfl hG.g_rd1 ?_
    refine x_iload_n (pc := 175) dX3_readOne_175 rfl rfl ?_
    refine x_iload (pc := 176) dX3_readOne_176 rfl ?_
    refine x_iload (pc := 178) dX3_readOne_178 rfl ?_
    refine x_callV (pc := 180) (As := [.int _, .int _, .int _]) dX3_readOne_180 km_X4_add kv_X4_add kl_RX3_69 hG.g_draft.1 rfl rfl (by decide) ⟨Nat.le_refl _, Nat.le_refl _⟩ rfl (Nat.le_of_ble_eq_true rfl) (Nat.le_of_ble_eq_true rfl) (c_rgAdd (p := nxX t (p + j)) (s := nxX t (p + j + 1)) (k := k) hG.g_draft hs3.2.2.2.1 (fun J2 dJ f2 => ⟨rfl, rfl, ?_⟩))
    have hq1 : p + j + 2 + 1 ≤ q := hq1
    exact X.keep [0, 1, 2] rfl (l_rO4e (p := p) (e := eT (nxX t (p + j)) (nxX t (p + j + 1)) k) (l := l) (j := j) hG hx (hs3.ad hx f2 dJ (by omega) rfl) hb.1 (by show l.length + 1 + j ≤ q; omega) (fun J3 hs4 f3 => K1 J3 q _ (PD.tok hb h4 (tstF_3 hlt hsg hn)) hs4 (((rdP.nx.tr (rdP.ne fJ)).tr (rdP.rg f2)).tr f3)))
  · skip
    refine x_istore (pc := 161) (lv' := [(0, .ref rd), (1, .int (nI wi)), (2, .int (nI (wi + j))), (3, .int (nI (nxX t (p + j)))), (4, .int (nI (nxX t (p + j + 1)))), (5, .int (-1))]) dX3_readOne_161 (by decide) rfl ?_
    refine x_iload (pc := 163) dX3_readOne_163 rfl ?_
    refine x_iconst (pc := 165) (v := -1) dX3_readOne_165 (by decide) ?_
    refine x_icmp_ne_f (pc := 166) (tgt := 171) dX3_readOne_166 (by decide) (by decide) ?_
    refine x_iconst (pc := 169) (v := 0) dX3_readOne_169 (by decide) ?_
    refine x_ireturn (pc := 170) dX3_readOne_170 ⟨_, rfl, by decide⟩ ⟨Nat.le_refl _, Nat.le_refl _⟩ ?_
    exact K0 _ _ (PD.tbad hb h4 (tstF_2 hlt hsg hn)) hs2.x rdP.nx

set_option maxHeartbeats 4000000 in
set_option maxRecDepth 100000 in
theorem l_rO4b {T : xT} {n : Nat} {sh : Nat → Nat × Nat} {I : xI} {R : xR} {L : xL} {P : xPost} {lr nw im tr rd hu se ac M : Nat} (hG : GEO sh R lr nw im tr rd hu se ac M) {t : xX} (hx : XOK t) {p wi : Nat} {l : List (Nat × Nat × Nat)} {j : Nat} (hb : BGs (nxX t) wi p j) (h4 : wi + j = 4 ∨ nxX t (p + j) ≠ 40) (hlt : isLt (nxX t (p + j))) (hs : RDS I rd t (p + j) l) (hl : l.length ≤ p) (K1 : ∀ (J : xI) (q : Nat) (e : xCE), PD (nxX t) 0 wi p none (q, some e) → RDS J rd t q (l ++ e.1) → rdP rd I J → P (n, sh, 0, 0) J R L (some (.int 1))) (K0 : ∀ (J : xI) (q : Nat), PD (nxX t) 0 wi p none (q, none) → RDX J rd t q → rdP rd I J → P (n, sh, 0, 0) J R L (some (.int 0)))  :  X T zX3_readOne 2 0 0 P 101 [(0, .ref rd), (1, .int (nI wi)), (2, .int (nI (wi + j))), (3, .int (nI (nxX t (p + j))))] [] (n, sh, 0, 0) (I) R L := by
  have x100 := hx.1
  have l1 : p + j < t.1 := nxX_lt rfl (by rcases hlt with z | z | z | z | z <;> rw [z] <;> decide)
  have hs2 := hs.nx l1
  refine x_aload_n (pc := 101) dX3_readOne_101 rfl rfl ?_
  refine x_dup (pc := 102) dX3_readOne_102 rfl ?_
  refine x_get (pc := 103) dX3_readOne_103 kf_RX3_27 hG.g_rd rfl ?_
  rw [hs.2.1]
  refine x_iconst (pc := 106) (v := 1) dX3_readOne_106 (by decide) ?_
  refine x_iaddn (pc := 107) (a := (p + j)) (b := 1) dX3_readOne_107 ?_
  refine x_put (pc := 108) dX3_readOne_108 kf_RX3_27 hG.g_rd rfl (Or.inl kb_3_2) ?_
  refine x_aload_n (pc := 111) dX3_readOne_111 rfl rfl ?_
  refine x_getr (pc := 112) dX3_readOne_112 kf_RX3_14 hG.g_rd rfl hG.g_rd0 ?_
  refine x_aload_n (pc := 115) dX3_readOne_115 rfl rfl ?_
  refine x_get (pc := 116) dX3_readOne_116 kf_RX3_27 hG.g_rd rfl ?_
  refine x_callV (pc := 119) (As := [.int _]) dX3_readOne_119 km_X5_at kv_X5_at kl_RX3_45 hG.g_text.1 rfl rfl (by decide) ⟨Nat.le_refl _, Nat.le_refl _⟩ rfl (Nat.le_of_ble_eq_true rfl) (Nat.le_of_ble_eq_true rfl) (c_at hG.g_text (⟨rfl, rfl, ?_⟩))
  rw [hs2.2.1, nC_at hs2.1 hx (by omega)]
  refine x_istore (pc := 122) (lv' := [(0, .ref rd), (1, .int (nI wi)), (2, .int (nI (wi + j))), (3, .int (nI (nxX t (p + j)))), (4, .int (nC (nxX t (p + j + 1))))]) dX3_readOne_122 (by decide) rfl ?_
  refine x_iload (pc := 124) dX3_readOne_124 rfl ?_
  refine x_bipush (pc := 126) (v := 60) dX3_readOne_126 (by decide) ?_
  refine x_icmp_eq (pc := 128) (tgt := 147) dX3_readOne_128 (by decide) (fun c128 => ?_) (fun c128 => ?_)
  · skip
    have hsg : isSg (nxX t (p + j + 1)) := by
      have z : nxX t (p + j + 1) = 60 ∨ nxX t (p + j + 1) = 61 ∨ nxX t (p + j + 1) = 62 := by
        first
        | exact Or.inl ((nC_eq (by decide)).mp c128)
        | exact Or.inr (Or.inl ((nC_eq (by decide)).mp c135))
        | exact Or.inr (Or.inr ((nC_eq (by decide)).mp c142))
      show 60 ≤ nxX t (p + j + 1) ∧ nxX t (p + j + 1) ≤ 62
      omega
    have h62 : 60 ≤ nxX t (p + j + 1) ∧ nxX t (p + j + 1) ≤ 62 := hsg
    rw [nC_lit (show nxX t (p + j + 1) < 256 by omega)]
    exact X.keep [0, 1, 2, 3, 4] rfl (l_rO4c hG hx hb h4 hlt hsg hs2 hl (fun J q e g1 g2 g3 => K1 J q e g1 g2 (rdP.nx.tr g3)) (fun J q g1 g2 g3 => K0 J q g1 g2 (rdP.nx.tr g3)))
  · skip
    refine x_iload (pc := 131) dX3_readOne_131 rfl ?_
    refine x_bipush (pc := 133) (v := 61) dX3_readOne_133 (by decide) ?_
    refine x_icmp_eq (pc := 135) (tgt := 147) dX3_readOne_135 (by decide) (fun c135 => ?_) (fun c135 => ?_)
    · skip
      have hsg : isSg (nxX t (p + j + 1)) := by
        have z : nxX t (p + j + 1) = 60 ∨ nxX t (p + j + 1) = 61 ∨ nxX t (p + j + 1) = 62 := by
          first
          | exact Or.inl ((nC_eq (by decide)).mp c128)
          | exact Or.inr (Or.inl ((nC_eq (by decide)).mp c135))
          | exact Or.inr (Or.inr ((nC_eq (by decide)).mp c142))
        show 60 ≤ nxX t (p + j + 1) ∧ nxX t (p + j + 1) ≤ 62
        omega
      have h62 : 60 ≤ nxX t (p + j + 1) ∧ nxX t (p + j + 1) ≤ 62 := hsg
      rw [nC_lit (show nxX t (p + j + 1) < 256 by omega)]
      exact X.keep [0, 1, 2, 3, 4] rfl (l_rO4c hG hx hb h4 hlt hsg hs2 hl (fun J q e g1 g2 g3 => K1 J q e g1 g2 (rdP.nx.tr g3)) (fun J q g1 g2 g3 => K0 J q g1 g2 (rdP.nx.tr g3)))
    · skip
      refine x_iload (pc := 138) dX3_readOne_138 rfl ?_
      refine x_bipush (pc := 140) (v := 62) dX3_readOne_140 (by decide) ?_
      refine x_icmp_eq (pc := 142) (tgt := 147) dX3_readOne_142 (by decide) (fun c142 => ?_) (fun c142 => ?_)
      · skip
        have hsg : isSg (nxX t (p + j + 1)) := by
          have z : nxX t (p + j + 1) = 60 ∨ nxX t (p + j + 1) = 61 ∨ nxX t (p + j + 1) = 62 := by
            first
            | exact Or.inl ((nC_eq (by decide)).mp c128)
            | exact Or.inr (Or.inl ((nC_eq (by decide)).mp c135))
            | exact Or.inr (Or.inr ((nC_eq (by decide)).mp c142))
          show 60 ≤ nxX t (p + j + 1) ∧ nxX t (p + j + 1) ≤ 62
          omega
        have h62 : 60 ≤ nxX t (p + j + 1) ∧ nxX t (p + j + 1) ≤ 62 := hsg
        rw [nC_lit (show nxX t (p + j + 1) < 256 by omega)]
        exact X.keep [0, 1, 2, 3, 4] rfl (l_rO4c hG hx hb h4 hlt hsg hs2 hl (fun J q e g1 g2 g3 => K1 J q e g1 g2 (rdP.nx.tr g3)) (fun J q g1 g2 g3 => K0 J q g1 g2 (rdP.nx.tr g3)))
      · skip
        refine x_iconst (pc := 145) (v := 0) dX3_readOne_145 (by decide) ?_
        refine x_ireturn (pc := 146) dX3_readOne_146 ⟨_, rfl, by decide⟩ ⟨Nat.le_refl _, Nat.le_refl _⟩ ?_
        exact K0 _ _ (PD.tbad hb h4 (tstF_1 hlt (fun q => by
          have q : 60 ≤ nxX t (p + j + 1) ∧ nxX t (p + j + 1) ≤ 62 := q
          have z : nxX t (p + j + 1) = 60 ∨ nxX t (p + j + 1) = 61 ∨ nxX t (p + j + 1) = 62 := by omega
          rcases z with z | z | z
          · exact c128 ((nC_eq (by decide)).mpr z)
          · exact c135 ((nC_eq (by decide)).mpr z)
          · exact c142 ((nC_eq (by decide)).mpr z)))) hs2.x rdP.nx

set_option maxHeartbeats 4000000 in
set_option maxRecDepth 100000 in
theorem l_rO4a {T : xT} {n : Nat} {sh : Nat → Nat × Nat} {I : xI} {R : xR} {L : xL} {P : xPost} {lr nw im tr rd hu se ac M : Nat} (hG : GEO sh R lr nw im tr rd hu se ac M) {t : xX} (hx : XOK t) {p wi : Nat} {l : List (Nat × Nat × Nat)} {j : Nat} (hb : BGs (nxX t) wi p j) (h4 : wi + j = 4 ∨ nxX t (p + j) ≠ 40) (hs : RDS I rd t (p + j) l) (hl : l.length ≤ p) (K1 : ∀ (J : xI) (q : Nat) (e : xCE), PD (nxX t) 0 wi p none (q, some e) → RDS J rd t q (l ++ e.1) → rdP rd I J → P (n, sh, 0, 0) J R L (some (.int 1))) (K0 : ∀ (J : xI) (q : Nat), PD (nxX t) 0 wi p none (q, none) → RDX J rd t q → rdP rd I J → P (n, sh, 0, 0) J R L (some (.int 0)))  :  X T zX3_readOne 2 0 0 P 57 [(0, .ref rd), (1, .int (nI wi)), (2, .int (nI (wi + j)))] [] (n, sh, 0, 0) (I) R L := by
  have x100 := hx.1
  refine x_aload_n (pc := 57) dX3_readOne_57 rfl rfl ?_
  refine x_getr (pc := 58) dX3_readOne_58 kf_RX3_14 hG.g_rd rfl hG.g_rd0 ?_
  refine x_aload_n (pc := 61) dX3_readOne_61 rfl rfl ?_
  refine x_get (pc := 62) dX3_readOne_62 kf_RX3_27 hG.g_rd rfl ?_
  refine x_callV (pc := 65) (As := [.int _]) dX3_readOne_65 km_X5_at kv_X5_at kl_RX3_45 hG.g_text.1 rfl rfl (by decide) ⟨Nat.le_refl _, Nat.le_refl _⟩ rfl (Nat.le_of_ble_eq_true rfl) (Nat.le_of_ble_eq_true rfl) (c_at hG.g_text (⟨rfl, rfl, ?_⟩))
  rw [hs.2.1, nC_at hs.1 hx (by have := hs.2.2.1; omega)]
  refine x_istore_n (pc := 68) (lv' := [(0, .ref rd), (1, .int (nI wi)), (2, .int (nI (wi + j))), (3, .int (nC (nxX t (p + j))))]) dX3_readOne_68 rfl (by decide) rfl ?_
  refine x_iload_n (pc := 69) dX3_readOne_69 rfl rfl ?_
  refine x_bipush (pc := 70) (v := 110) dX3_readOne_70 (by decide) ?_
  refine x_icmp_eq (pc := 72) (tgt := 101) dX3_readOne_72 (by decide) (fun c72 => ?_) (fun c72 => ?_)
  · skip
    have hlt : isLt (nxX t (p + j)) := by
      first
      | exact Or.inl ((nC_eq (by decide)).mp c72)
      | exact Or.inr (Or.inl ((nC_eq (by decide)).mp c78))
      | exact Or.inr (Or.inr (Or.inl ((nC_eq (by decide)).mp c84)))
      | exact Or.inr (Or.inr (Or.inr (Or.inl ((nC_eq (by decide)).mp c90))))
      | exact Or.inr (Or.inr (Or.inr (Or.inr ((nC_eq (by decide)).mp c96))))
    have h128 : nxX t (p + j) < 256 := by rcases hlt with z | z | z | z | z <;> rw [z] <;> decide
    rw [nC_lit h128]
    exact X.keep [0, 1, 2, 3] rfl (l_rO4b hG hx hb h4 hlt hs hl K1 K0)
  · skip
    refine x_iload_n (pc := 75) dX3_readOne_75 rfl rfl ?_
    refine x_bipush (pc := 76) (v := 104) dX3_readOne_76 (by decide) ?_
    refine x_icmp_eq (pc := 78) (tgt := 101) dX3_readOne_78 (by decide) (fun c78 => ?_) (fun c78 => ?_)
    · skip
      have hlt : isLt (nxX t (p + j)) := by
        first
        | exact Or.inl ((nC_eq (by decide)).mp c72)
        | exact Or.inr (Or.inl ((nC_eq (by decide)).mp c78))
        | exact Or.inr (Or.inr (Or.inl ((nC_eq (by decide)).mp c84)))
        | exact Or.inr (Or.inr (Or.inr (Or.inl ((nC_eq (by decide)).mp c90))))
        | exact Or.inr (Or.inr (Or.inr (Or.inr ((nC_eq (by decide)).mp c96))))
      have h128 : nxX t (p + j) < 256 := by rcases hlt with z | z | z | z | z <;> rw [z] <;> decide
      rw [nC_lit h128]
      exact X.keep [0, 1, 2, 3] rfl (l_rO4b hG hx hb h4 hlt hs hl K1 K0)
    · skip
      refine x_iload_n (pc := 81) dX3_readOne_81 rfl rfl ?_
      refine x_bipush (pc := 82) (v := 98) dX3_readOne_82 (by decide) ?_
      refine x_icmp_eq (pc := 84) (tgt := 101) dX3_readOne_84 (by decide) (fun c84 => ?_) (fun c84 => ?_)
      · skip
        have hlt : isLt (nxX t (p + j)) := by
          first
          | exact Or.inl ((nC_eq (by decide)).mp c72)
          | exact Or.inr (Or.inl ((nC_eq (by decide)).mp c78))
          | exact Or.inr (Or.inr (Or.inl ((nC_eq (by decide)).mp c84)))
          | exact Or.inr (Or.inr (Or.inr (Or.inl ((nC_eq (by decide)).mp c90))))
          | exact Or.inr (Or.inr (Or.inr (Or.inr ((nC_eq (by decide)).mp c96))))
        have h128 : nxX t (p + j) < 256 := by rcases hlt with z | z | z | z | z <;> rw [z] <;> decide
        rw [nC_lit h128]
        exact X.keep [0, 1, 2, 3] rfl (l_rO4b hG hx hb h4 hlt hs hl K1 K0)
      · skip
        refine x_iload_n (pc := 87) dX3_readOne_87 rfl rfl ?_
        refine x_bipush (pc := 88) (v := 99) dX3_readOne_88 (by decide) ?_
        refine x_icmp_eq (pc := 90) (tgt := 101) dX3_readOne_90 (by decide) (fun c90 => ?_) (fun c90 => ?_)
        · skip
          have hlt : isLt (nxX t (p + j)) := by
            first
            | exact Or.inl ((nC_eq (by decide)).mp c72)
            | exact Or.inr (Or.inl ((nC_eq (by decide)).mp c78))
            | exact Or.inr (Or.inr (Or.inl ((nC_eq (by decide)).mp c84)))
            | exact Or.inr (Or.inr (Or.inr (Or.inl ((nC_eq (by decide)).mp c90))))
            | exact Or.inr (Or.inr (Or.inr (Or.inr ((nC_eq (by decide)).mp c96))))
          have h128 : nxX t (p + j) < 256 := by rcases hlt with z | z | z | z | z <;> rw [z] <;> decide
          rw [nC_lit h128]
          exact X.keep [0, 1, 2, 3] rfl (l_rO4b hG hx hb h4 hlt hs hl K1 K0)
        · skip
          refine x_iload_n (pc := 93) dX3_readOne_93 rfl rfl ?_
          refine x_bipush (pc := 94) (v := 116) dX3_readOne_94 (by decide) ?_
          refine x_icmp_eq (pc := 96) (tgt := 101) dX3_readOne_96 (by decide) (fun c96 => ?_) (fun c96 => ?_)
          · skip
            have hlt : isLt (nxX t (p + j)) := by
              first
              | exact Or.inl ((nC_eq (by decide)).mp c72)
              | exact Or.inr (Or.inl ((nC_eq (by decide)).mp c78))
              | exact Or.inr (Or.inr (Or.inl ((nC_eq (by decide)).mp c84)))
              | exact Or.inr (Or.inr (Or.inr (Or.inl ((nC_eq (by decide)).mp c90))))
              | exact Or.inr (Or.inr (Or.inr (Or.inr ((nC_eq (by decide)).mp c96))))
            have h128 : nxX t (p + j) < 256 := by rcases hlt with z | z | z | z | z <;> rw [z] <;> decide
            rw [nC_lit h128]
            exact X.keep [0, 1, 2, 3] rfl (l_rO4b hG hx hb h4 hlt hs hl K1 K0)
          · skip
            refine x_iconst (pc := 99) (v := 0) dX3_readOne_99 (by decide) ?_
            refine x_ireturn (pc := 100) dX3_readOne_100 ⟨_, rfl, by decide⟩ ⟨Nat.le_refl _, Nat.le_refl _⟩ ?_
            exact K0 _ _ (PD.tbad hb h4 (tstF_0 (fun q => by
              rcases q with z | z | z | z | z
              · exact c72 ((nC_eq (by decide)).mpr z)
              · exact c78 ((nC_eq (by decide)).mpr z)
              · exact c84 ((nC_eq (by decide)).mpr z)
              · exact c90 ((nC_eq (by decide)).mpr z)
              · exact c96 ((nC_eq (by decide)).mpr z)))) hs.x rdP.rf

set_option maxHeartbeats 4000000 in
set_option maxRecDepth 100000 in
theorem l_rO4d {T : xT} {n : Nat} {sh : Nat → Nat × Nat} {I : xI} {R : xR} {L : xL} {P : xPost} {lr nw im tr rd hu se ac M : Nat} (hG : GEO sh R lr nw im tr rd hu se ac M) {t : xX} (hx : XOK t) {p wi : Nat} {l : List (Nat × Nat × Nat)} {j : Nat} (hb : BGs (nxX t) wi p j) (hs : RDS I rd t (p + j) l) (hl : l.length ≤ p) (hk : 4 ≤ wi) (K1 : ∀ (J : xI) (q : Nat) (e : xCE), PD (nxX t) 0 wi p none (q, some e) → RDS J rd t q (l ++ e.1) → rdP rd I J → P (n, sh, 0, 0) J R L (some (.int 1))) (K0 : ∀ (J : xI) (q : Nat), PD (nxX t) 0 wi p none (q, none) → RDX J rd t q → rdP rd I J → P (n, sh, 0, 0) J R L (some (.int 0)))  :  X T zX3_readOne 2 0 0 P 22 [(0, .ref rd), (1, .int (nI wi)), (2, .int (nI (wi + j)))] [] (n, sh, 0, 0) (I) R L := by
  have hb1 := hb.1
  refine x_iload_n (pc := 22) dX3_readOne_22 rfl rfl ?_
  refine x_iconst (pc := 23) (v := 4) dX3_readOne_23 (by decide) ?_
  refine x_icmpn_ge_t (pc := 24) (tgt := 57) (a := (wi + j)) (b := 4) dX3_readOne_24 (by decide) (by omega) (by decide) (by omega) ?_
  exact X.keep [0, 1, 2] rfl (l_rO4a hG hx hb (Or.inl (by omega)) hs hl K1 K0)

set_option maxHeartbeats 4000000 in
set_option maxRecDepth 100000 in
theorem c_readOne4 {T : xT} {n : Nat} {sh : Nat → Nat × Nat} {I : xI} {R : xR} {L : xL} {P : xPost} {lr nw im tr rd hu se ac M : Nat} (hG : GEO sh R lr nw im tr rd hu se ac M) {t : xX} (hx : XOK t) {p wi : Nat} {l : List (Nat × Nat × Nat)} (hs : RDS I rd t p l) (hk : 4 ≤ wi) (hw4 : wi ≤ 4) (K1 : ∀ (J : xI) (q : Nat) (e : xCE), PD (nxX t) 0 wi p none (q, some e) → RDS J rd t q (l ++ e.1) → rdP rd I J → P (n, sh, 0, 0) J R L (some (.int 1))) (K0 : ∀ (J : xI) (q : Nat), PD (nxX t) 0 wi p none (q, none) → RDX J rd t q → rdP rd I J → P (n, sh, 0, 0) J R L (some (.int 0)))  : XM T zX3_readOne 2 [.ref rd, .int (nI wi)] n sh I R L P := by
  refine x_iload_n (pc := 0) dX3_readOne_0 rfl rfl ?_
  refine x_istore_n (pc := 1) (lv' := [(0, .ref rd), (1, .int (nI wi)), (2, .int (nI wi))]) dX3_readOne_1 rfl (by decide) rfl ?_
  exact X.keep [0, 1, 2] rfl (l_rO4 hG hx hw4 (fun J j hb hs2 fj => l_rO4d hG hx hb hs2 hs.2.2.2.2 hk (fun J2 q e g1 g2 g3 => K1 J2 q e g1 g2 (fj.tr g3)) (fun J2 q g1 g2 g3 => K0 J2 q g1 g2 (fj.tr g3))) (4 - wi) 0 (by omega) I hs (fun k q => absurd q (by omega)) rdP.rf)

set_option maxHeartbeats 4000000 in
set_option maxRecDepth 100000 in
theorem l_rB4z {T : xT} {n : Nat} {sh : Nat → Nat × Nat} {I : xI} {R : xR} {L : xL} {P : xPost} {lr nw im tr rd hu se ac M : Nat} (hG : GEO sh R lr nw im tr rd hu se ac M) {t : xX} (hx : XOK t) {p wi : Nat} {l : List (Nat × Nat × Nat)} {i : Nat} (hi : i ≤ 100) (K : P (n, sh, 0, 0) I R L (some (.int 0)))  :  X T zX3_readBoth 3 0 0 P 8 [(0, .ref rd), (1, .int (nI wi)), (2, .int 0), (3, .int (nI i))] [] (n, sh, 0, 0) (I) R L := by
  refine x_iload_n (pc := 8) dX3_readBoth_8 rfl rfl ?_
  refine x_bipush (pc := 9) (v := 100) dX3_readBoth_9 (by decide) ?_
  refine x_icmpn_ge (pc := 11) (tgt := 50) (a := i) (b := 100) dX3_readBoth_11 (by decide) (by omega) (by decide) (fun c11 => ?_) (fun c11 => ?_)
  · skip
    refine x_iload_n (pc := 50) dX3_readBoth_50 rfl rfl ?_
    refine x_ireturn (pc := 51) dX3_readBoth_51 ⟨_, rfl, by decide⟩ ⟨Nat.le_refl _, Nat.le_refl _⟩ ?_
    exact K
  · skip
    refine x_iload_n (pc := 14) dX3_readBoth_14 rfl rfl ?_
    refine x_if_eq_t (pc := 15) (tgt := 50) dX3_readBoth_15 (by decide) (by decide) ?_
    refine x_iload_n (pc := 50) dX3_readBoth_50 rfl rfl ?_
    refine x_ireturn (pc := 51) dX3_readBoth_51 ⟨_, rfl, by decide⟩ ⟨Nat.le_refl _, Nat.le_refl _⟩ ?_
    exact K

set_option maxHeartbeats 4000000 in
set_option maxRecDepth 100000 in
theorem l_rB4 {T : xT} {n : Nat} {sh : Nat → Nat × Nat} {I : xI} {R : xR} {L : xL} {P : xPost} {lr nw im tr rd hu se ac M : Nat} (hG : GEO sh R lr nw im tr rd hu se ac M) {t : xX} (hx : XOK t) {p wi : Nat} {l : List (Nat × Nat × Nat)} (hk : 4 ≤ wi) (hw4 : wi ≤ 4) (K1 : ∀ (J : xI) (q : Nat) (e : xCE), PD (nxX t) 1 wi p none (q, some e) → nxX t q ≠ 38 → RDS J rd t q (l ++ e.1) → rdP rd I J → P (n, sh, 0, 0) J R L (some (.int 1))) (K0 : ∀ (J : xI) (q : Nat), PD (nxX t) 1 wi p none (q, none) → RDX J rd t q → rdP rd I J → P (n, sh, 0, 0) J R L (some (.int 0)))  : ∀ (w i : Nat), i + w = 100 → ∀ (J : xI) (q : Nat) (e : xCE), RDS J rd t q (l ++ e.1) → i ≤ q → (∀ r, PD (nxX t) 2 wi q (some e) r → PD (nxX t) 1 wi p none r) → rdP rd I J → X T zX3_readBoth 3 0 0 P 8 [(0, .ref rd), (1, .int (nI wi)), (2, .int 1), (3, .int (nI i))] [] (n, sh, 0, 0) (J) R L := by
  have x100 := hx.1
  intro w
  induction w with
  | zero =>
    intro i hw J q e hs hiq hct fj
    have hz : i = 100 := by omega
    refine x_iload_n (pc := 8) dX3_readBoth_8 rfl rfl ?_
    refine x_bipush (pc := 9) (v := 100) dX3_readBoth_9 (by decide) ?_
    refine x_icmpn_ge_t (pc := 11) (tgt := 50) (a := i) (b := 100) dX3_readBoth_11 (by decide) (by omega) (by decide) (by omega) ?_
    refine x_iload_n (pc := 50) dX3_readBoth_50 rfl rfl ?_
    refine x_ireturn (pc := 51) dX3_readBoth_51 ⟨_, rfl, by decide⟩ ⟨Nat.le_refl _, Nat.le_refl _⟩ ?_
    have hn : nxX t q ≠ 38 := by
      show (if q < t.1 then t.2 q else 256) ≠ 38
      rw [if_neg (by omega)]
      decide
    exact K1 J q e (hct _ (PD.Lend hn)) hn hs fj
  | succ w ih =>
    intro i hw J q e hs hiq hct fj
    have hi : i < 100 := by omega
    refine x_iload_n (pc := 8) dX3_readBoth_8 rfl rfl ?_
    refine x_bipush (pc := 9) (v := 100) dX3_readBoth_9 (by decide) ?_
    refine x_icmpn_ge_f (pc := 11) (tgt := 50) (a := i) (b := 100) dX3_readBoth_11 (by decide) (by omega) (by decide) (by omega) ?_
    refine x_iload_n (pc := 14) dX3_readBoth_14 rfl rfl ?_
    refine x_if_eq_f (pc := 15) (tgt := 50) dX3_readBoth_15 (by decide) (by decide) ?_
    refine x_aload_n (pc := 18) dX3_readBoth_18 rfl rfl ?_
    refine x_bipush (pc := 19) (v := 38) dX3_readBoth_19 (by decide) ?_
    refine x_callV (pc := 21) (As := [.int _]) dX3_readBoth_21 km_X3_accept kv_X3_accept kl_RX3_34 hG.g_rd rfl rfl (by decide) ⟨Nat.le_refl _, Nat.le_refl _⟩ rfl (Nat.le_of_ble_eq_true rfl) (Nat.le_of_ble_eq_true rfl) (c_accept (c := 38) hG hs.1 hx hs.2.1 hs.2.2.1 (by decide) (fun hc hlt => ⟨rfl, rfl, ?_⟩) (fun hc => ⟨rfl, rfl, ?_⟩))
    · skip
      refine x_if_eq_f (pc := 24) (tgt := 50) dX3_readBoth_24 (by decide) (by decide) ?_
      refine x_aload_n (pc := 27) dX3_readBoth_27 rfl rfl ?_
      refine x_iload_n (pc := 28) dX3_readBoth_28 rfl rfl ?_
      refine x_callV (pc := 29) (As := [.int _]) dX3_readBoth_29 km_X3_readOne kv_X3_readOne kl_RX3_76 hG.g_rd rfl rfl (by decide) ⟨Nat.le_refl _, Nat.le_refl _⟩ rfl (Nat.le_of_ble_eq_true rfl) (Nat.le_of_ble_eq_true rfl) (c_readOne4 hG hx (hs.nx hlt) hk hw4 (fun J2 q2 e2 h1 h2 f2 => ⟨rfl, rfl, ?_⟩) (fun J2 q2 h1 h2 f2 => ⟨rfl, rfl, ?_⟩))
      · skip
        refine x_istore_n (pc := 32) (lv' := [(0, .ref rd), (1, .int (nI wi)), (2, .int 1), (3, .int (nI i))]) dX3_readBoth_32 rfl (by decide) rfl ?_
        refine x_aload_n (pc := 33) dX3_readBoth_33 rfl rfl ?_
        refine x_getr (pc := 34) dX3_readBoth_34 kf_RX3_23 hG.g_rd rfl hG.g_rd1 ?_
        refine x_bipush (pc := 37) (v := 38) dX3_readBoth_37 (by decide) ?_
        refine x_iconst (pc := 39) (v := 0) dX3_readBoth_39 (by decide) ?_
        refine x_iconst (pc := 40) (v := 0) dX3_readBoth_40 (by decide) ?_
        refine x_callV (pc := 41) (As := [.int _, .int _, .int _]) dX3_readBoth_41 km_X4_add kv_X4_add kl_RX3_69 hG.g_draft.1 rfl rfl (by decide) ⟨Nat.le_refl _, Nat.le_refl _⟩ rfl (Nat.le_of_ble_eq_true rfl) (Nat.le_of_ble_eq_true rfl) (c_rgAdd (p := 38) (s := 0) (k := 0) hG.g_draft h2.2.2.2.1 (fun J3 d3 f3 => ⟨rfl, rfl, ?_⟩))
        refine x_iinc (pc := 44) (v := nI (i + 1)) (lv' := [(0, .ref rd), (1, .int (nI wi)), (2, .int 1), (3, .int (nI (i + 1)))]) dX3_readBoth_44 rfl (nI_1 _) (by decide) rfl ?_
        refine x_goto (pc := 47) (tgt := 8) dX3_readBoth_47 (by decide) ?_
        have g3 : q + 1 + e2.1.length ≤ q2 := (pd_gd h1 e2 rfl).2.2.1
        have hll := hs.2.2.2.2
        refine ih (i + 1) (by omega) J3 q2 (eA e e2) (h2.ad hx f3 d3 (by rw [List.length_append]; omega) ?_) (by omega) (fun r hr => hct r (PD.Lgo hc h1 hr)) (((fj.tr rdP.nx).tr f2).tr (rdP.rg f3))
        show l ++ (e.1 ++ e2.1 ++ [(38, 0, 0)]) = l ++ e.1 ++ e2.1 ++ [(38, 0, 0)]
        rw [← List.append_assoc, ← List.append_assoc]
      · skip
        refine x_istore_n (pc := 32) (lv' := [(0, .ref rd), (1, .int (nI wi)), (2, .int 0), (3, .int (nI i))]) dX3_readBoth_32 rfl (by decide) rfl ?_
        refine x_aload_n (pc := 33) dX3_readBoth_33 rfl rfl ?_
        refine x_getr (pc := 34) dX3_readBoth_34 kf_RX3_23 hG.g_rd rfl hG.g_rd1 ?_
        refine x_bipush (pc := 37) (v := 38) dX3_readBoth_37 (by decide) ?_
        refine x_iconst (pc := 39) (v := 0) dX3_readBoth_39 (by decide) ?_
        refine x_iconst (pc := 40) (v := 0) dX3_readBoth_40 (by decide) ?_
        refine x_callV (pc := 41) (As := [.int _, .int _, .int _]) dX3_readBoth_41 km_X4_add kv_X4_add kl_RX3_69 hG.g_draft.1 rfl rfl (by decide) ⟨Nat.le_refl _, Nat.le_refl _⟩ rfl (Nat.le_of_ble_eq_true rfl) (Nat.le_of_ble_eq_true rfl) (c_rgAdd (p := 38) (s := 0) (k := 0) hG.g_draft h2.2.2.2.choose_spec (fun J3 d3 f3 => ⟨rfl, rfl, ?_⟩))
        refine x_iinc (pc := 44) (v := nI (i + 1)) (lv' := [(0, .ref rd), (1, .int (nI wi)), (2, .int 0), (3, .int (nI (i + 1)))]) dX3_readBoth_44 rfl (nI_1 _) (by decide) rfl ?_
        refine x_goto (pc := 47) (tgt := 8) dX3_readBoth_47 (by decide) ?_
        exact l_rB4z hG hx (p := p) (l := l) (t := t) (wi := wi) (i := i + 1) (by omega) (K0 J3 q2 (hct _ (PD.Lbad hc h1)) (h2.ad f3 d3) (((fj.tr rdP.nx).tr f2).tr (rdP.rg f3)))
    · skip
      refine x_if_eq_t (pc := 24) (tgt := 50) dX3_readBoth_24 (by decide) (by decide) ?_
      refine x_iload_n (pc := 50) dX3_readBoth_50 rfl rfl ?_
      refine x_ireturn (pc := 51) dX3_readBoth_51 ⟨_, rfl, by decide⟩ ⟨Nat.le_refl _, Nat.le_refl _⟩ ?_
      have hn : nxX t q ≠ 38 := hc
      exact K1 J q e (hct _ (PD.Lend hn)) hn hs fj

set_option maxHeartbeats 4000000 in
set_option maxRecDepth 100000 in
theorem c_readBoth4 {T : xT} {n : Nat} {sh : Nat → Nat × Nat} {I : xI} {R : xR} {L : xL} {P : xPost} {lr nw im tr rd hu se ac M : Nat} (hG : GEO sh R lr nw im tr rd hu se ac M) {t : xX} (hx : XOK t) {p wi : Nat} {l : List (Nat × Nat × Nat)} (hs : RDS I rd t p l) (hk : 4 ≤ wi) (hw4 : wi ≤ 4) (K1 : ∀ (J : xI) (q : Nat) (e : xCE), PD (nxX t) 1 wi p none (q, some e) → nxX t q ≠ 38 → RDS J rd t q (l ++ e.1) → rdP rd I J → P (n, sh, 0, 0) J R L (some (.int 1))) (K0 : ∀ (J : xI) (q : Nat), PD (nxX t) 1 wi p none (q, none) → RDX J rd t q → rdP rd I J → P (n, sh, 0, 0) J R L (some (.int 0)))  : XM T zX3_readBoth 3 [.ref rd, .int (nI wi)] n sh I R L P := by
  refine x_aload_n (pc := 0) dX3_readBoth_0 rfl rfl ?_
  refine x_iload_n (pc := 1) dX3_readBoth_1 rfl rfl ?_
  refine x_callV (pc := 2) (As := [.int _]) dX3_readBoth_2 km_X3_readOne kv_X3_readOne kl_RX3_76 hG.g_rd rfl rfl (by decide) ⟨Nat.le_refl _, Nat.le_refl _⟩ rfl (Nat.le_of_ble_eq_true rfl) (Nat.le_of_ble_eq_true rfl) (c_readOne4 hG hx hs hk hw4 (fun J q e h1 h2 f2 => ⟨rfl, rfl, ?_⟩) (fun J q h1 h2 f2 => ⟨rfl, rfl, ?_⟩))
  · skip
    refine x_istore_n (pc := 5) (lv' := [(0, .ref rd), (1, .int (nI wi)), (2, .int 1)]) dX3_readBoth_5 rfl (by decide) rfl ?_
    refine x_iconst (pc := 6) (v := 0) dX3_readBoth_6 (by decide) ?_
    refine x_istore_n (pc := 7) (lv' := [(0, .ref rd), (1, .int (nI wi)), (2, .int 1), (3, .int 0)]) dX3_readBoth_7 rfl (by decide) rfl ?_
    exact l_rB4 hG hx hk hw4 K1 K0 100 0 (by omega) J q e h2 (by omega) (fun r hr => PD.Tgo h1 hr) f2
  · skip
    refine x_istore_n (pc := 5) (lv' := [(0, .ref rd), (1, .int (nI wi)), (2, .int 0)]) dX3_readBoth_5 rfl (by decide) rfl ?_
    refine x_iconst (pc := 6) (v := 0) dX3_readBoth_6 (by decide) ?_
    refine x_istore_n (pc := 7) (lv' := [(0, .ref rd), (1, .int (nI wi)), (2, .int 0), (3, .int 0)]) dX3_readBoth_7 rfl (by decide) rfl ?_
    exact l_rB4z hG hx (p := p) (l := l) (t := t) (wi := wi) (i := 0) (by omega) (K0 J q (PD.Tbad h1) h2 f2)

set_option maxHeartbeats 4000000 in
set_option maxRecDepth 100000 in
theorem l_rE4z {T : xT} {n : Nat} {sh : Nat → Nat × Nat} {I : xI} {R : xR} {L : xL} {P : xPost} {lr nw im tr rd hu se ac M : Nat} (hG : GEO sh R lr nw im tr rd hu se ac M) {t : xX} (hx : XOK t) {p wi : Nat} {l : List (Nat × Nat × Nat)} {i : Nat} (hi : i ≤ 100) (K : P (n, sh, 0, 0) I R L (some (.int 0)))  :  X T zX3_readEither 4 0 0 P 8 [(0, .ref rd), (1, .int (nI wi)), (2, .int 0), (3, .int (nI i))] [] (n, sh, 0, 0) (I) R L := by
  refine x_iload_n (pc := 8) dX3_readEither_8 rfl rfl ?_
  refine x_bipush (pc := 9) (v := 100) dX3_readEither_9 (by decide) ?_
  refine x_icmpn_ge (pc := 11) (tgt := 50) (a := i) (b := 100) dX3_readEither_11 (by decide) (by omega) (by decide) (fun c11 => ?_) (fun c11 => ?_)
  · skip
    refine x_iload_n (pc := 50) dX3_readEither_50 rfl rfl ?_
    refine x_ireturn (pc := 51) dX3_readEither_51 ⟨_, rfl, by decide⟩ ⟨Nat.le_refl _, Nat.le_refl _⟩ ?_
    exact K
  · skip
    refine x_iload_n (pc := 14) dX3_readEither_14 rfl rfl ?_
    refine x_if_eq_t (pc := 15) (tgt := 50) dX3_readEither_15 (by decide) (by decide) ?_
    refine x_iload_n (pc := 50) dX3_readEither_50 rfl rfl ?_
    refine x_ireturn (pc := 51) dX3_readEither_51 ⟨_, rfl, by decide⟩ ⟨Nat.le_refl _, Nat.le_refl _⟩ ?_
    exact K

set_option maxHeartbeats 4000000 in
set_option maxRecDepth 100000 in
theorem l_rE4 {T : xT} {n : Nat} {sh : Nat → Nat × Nat} {I : xI} {R : xR} {L : xL} {P : xPost} {lr nw im tr rd hu se ac M : Nat} (hG : GEO sh R lr nw im tr rd hu se ac M) {t : xX} (hx : XOK t) {p wi : Nat} {l : List (Nat × Nat × Nat)} (hk : 4 ≤ wi) (hw4 : wi ≤ 4) (K1 : ∀ (J : xI) (q : Nat) (e : xCE), PD (nxX t) 3 wi p none (q, some e) → RDS J rd t q (l ++ e.1) → rdP rd I J → P (n, sh, 0, 0) J R L (some (.int 1))) (K0 : ∀ (J : xI) (q : Nat), PD (nxX t) 3 wi p none (q, none) → RDX J rd t q → rdP rd I J → P (n, sh, 0, 0) J R L (some (.int 0)))  : ∀ (w i : Nat), i + w = 100 → ∀ (J : xI) (q : Nat) (e : xCE), nxX t q ≠ 38 → RDS J rd t q (l ++ e.1) → i ≤ q → (∀ r, PD (nxX t) 4 wi q (some e) r → PD (nxX t) 3 wi p none r) → rdP rd I J → X T zX3_readEither 4 0 0 P 8 [(0, .ref rd), (1, .int (nI wi)), (2, .int 1), (3, .int (nI i))] [] (n, sh, 0, 0) (J) R L := by
  have x100 := hx.1
  intro w
  induction w with
  | zero =>
    intro i hw J q e hn8 hs hiq hct fj
    have hz : i = 100 := by omega
    refine x_iload_n (pc := 8) dX3_readEither_8 rfl rfl ?_
    refine x_bipush (pc := 9) (v := 100) dX3_readEither_9 (by decide) ?_
    refine x_icmpn_ge_t (pc := 11) (tgt := 50) (a := i) (b := 100) dX3_readEither_11 (by decide) (by omega) (by decide) (by omega) ?_
    refine x_iload_n (pc := 50) dX3_readEither_50 rfl rfl ?_
    refine x_ireturn (pc := 51) dX3_readEither_51 ⟨_, rfl, by decide⟩ ⟨Nat.le_refl _, Nat.le_refl _⟩ ?_
    have hn : nxX t q ≠ 124 := by
      show (if q < t.1 then t.2 q else 256) ≠ 124
      rw [if_neg (by omega)]
      decide
    exact K1 J q e (hct _ (PD.Mend hn8 hn)) hs fj
  | succ w ih =>
    intro i hw J q e hn8 hs hiq hct fj
    have hi : i < 100 := by omega
    refine x_iload_n (pc := 8) dX3_readEither_8 rfl rfl ?_
    refine x_bipush (pc := 9) (v := 100) dX3_readEither_9 (by decide) ?_
    refine x_icmpn_ge_f (pc := 11) (tgt := 50) (a := i) (b := 100) dX3_readEither_11 (by decide) (by omega) (by decide) (by omega) ?_
    refine x_iload_n (pc := 14) dX3_readEither_14 rfl rfl ?_
    refine x_if_eq_f (pc := 15) (tgt := 50) dX3_readEither_15 (by decide) (by decide) ?_
    refine x_aload_n (pc := 18) dX3_readEither_18 rfl rfl ?_
    refine x_bipush (pc := 19) (v := 124) dX3_readEither_19 (by decide) ?_
    refine x_callV (pc := 21) (As := [.int _]) dX3_readEither_21 km_X3_accept kv_X3_accept kl_RX3_34 hG.g_rd rfl rfl (by decide) ⟨Nat.le_refl _, Nat.le_refl _⟩ rfl (Nat.le_of_ble_eq_true rfl) (Nat.le_of_ble_eq_true rfl) (c_accept (c := 124) hG hs.1 hx hs.2.1 hs.2.2.1 (by decide) (fun hc hlt => ⟨rfl, rfl, ?_⟩) (fun hc => ⟨rfl, rfl, ?_⟩))
    · skip
      refine x_if_eq_f (pc := 24) (tgt := 50) dX3_readEither_24 (by decide) (by decide) ?_
      refine x_aload_n (pc := 27) dX3_readEither_27 rfl rfl ?_
      refine x_iload_n (pc := 28) dX3_readEither_28 rfl rfl ?_
      refine x_callV (pc := 29) (As := [.int _]) dX3_readEither_29 km_X3_readBoth kv_X3_readBoth kl_RX3_73 hG.g_rd rfl rfl (by decide) ⟨Nat.le_refl _, Nat.le_refl _⟩ rfl (Nat.le_of_ble_eq_true rfl) (Nat.le_of_ble_eq_true rfl) (c_readBoth4 hG hx (hs.nx hlt) hk hw4 (fun J2 q2 e2 h1 hn2 h2 f2 => ⟨rfl, rfl, ?_⟩) (fun J2 q2 h1 h2 f2 => ⟨rfl, rfl, ?_⟩))
      · skip
        refine x_istore_n (pc := 32) (lv' := [(0, .ref rd), (1, .int (nI wi)), (2, .int 1), (3, .int (nI i))]) dX3_readEither_32 rfl (by decide) rfl ?_
        refine x_aload_n (pc := 33) dX3_readEither_33 rfl rfl ?_
        refine x_getr (pc := 34) dX3_readEither_34 kf_RX3_23 hG.g_rd rfl hG.g_rd1 ?_
        refine x_bipush (pc := 37) (v := 124) dX3_readEither_37 (by decide) ?_
        refine x_iconst (pc := 39) (v := 0) dX3_readEither_39 (by decide) ?_
        refine x_iconst (pc := 40) (v := 0) dX3_readEither_40 (by decide) ?_
        refine x_callV (pc := 41) (As := [.int _, .int _, .int _]) dX3_readEither_41 km_X4_add kv_X4_add kl_RX3_69 hG.g_draft.1 rfl rfl (by decide) ⟨Nat.le_refl _, Nat.le_refl _⟩ rfl (Nat.le_of_ble_eq_true rfl) (Nat.le_of_ble_eq_true rfl) (c_rgAdd (p := 124) (s := 0) (k := 0) hG.g_draft h2.2.2.2.1 (fun J3 d3 f3 => ⟨rfl, rfl, ?_⟩))
        refine x_iinc (pc := 44) (v := nI (i + 1)) (lv' := [(0, .ref rd), (1, .int (nI wi)), (2, .int 1), (3, .int (nI (i + 1)))]) dX3_readEither_44 rfl (nI_1 _) (by decide) rfl ?_
        refine x_goto (pc := 47) (tgt := 8) dX3_readEither_47 (by decide) ?_
        have g3 : q + 1 + e2.1.length ≤ q2 := (pd_gd h1 e2 rfl).2.2.1
        have hll := hs.2.2.2.2
        refine ih (i + 1) (by omega) J3 q2 (eO e e2) hn2 (h2.ad hx f3 d3 (by rw [List.length_append]; omega) ?_) (by omega) (fun r hr => hct r (PD.Mgo hc h1 hr)) (((fj.tr rdP.nx).tr f2).tr (rdP.rg f3))
        show l ++ (e.1 ++ e2.1 ++ [(124, 0, 0)]) = l ++ e.1 ++ e2.1 ++ [(124, 0, 0)]
        rw [← List.append_assoc, ← List.append_assoc]
      · skip
        refine x_istore_n (pc := 32) (lv' := [(0, .ref rd), (1, .int (nI wi)), (2, .int 0), (3, .int (nI i))]) dX3_readEither_32 rfl (by decide) rfl ?_
        refine x_aload_n (pc := 33) dX3_readEither_33 rfl rfl ?_
        refine x_getr (pc := 34) dX3_readEither_34 kf_RX3_23 hG.g_rd rfl hG.g_rd1 ?_
        refine x_bipush (pc := 37) (v := 124) dX3_readEither_37 (by decide) ?_
        refine x_iconst (pc := 39) (v := 0) dX3_readEither_39 (by decide) ?_
        refine x_iconst (pc := 40) (v := 0) dX3_readEither_40 (by decide) ?_
        refine x_callV (pc := 41) (As := [.int _, .int _, .int _]) dX3_readEither_41 km_X4_add kv_X4_add kl_RX3_69 hG.g_draft.1 rfl rfl (by decide) ⟨Nat.le_refl _, Nat.le_refl _⟩ rfl (Nat.le_of_ble_eq_true rfl) (Nat.le_of_ble_eq_true rfl) (c_rgAdd (p := 124) (s := 0) (k := 0) hG.g_draft h2.2.2.2.choose_spec (fun J3 d3 f3 => ⟨rfl, rfl, ?_⟩))
        refine x_iinc (pc := 44) (v := nI (i + 1)) (lv' := [(0, .ref rd), (1, .int (nI wi)), (2, .int 0), (3, .int (nI (i + 1)))]) dX3_readEither_44 rfl (nI_1 _) (by decide) rfl ?_
        refine x_goto (pc := 47) (tgt := 8) dX3_readEither_47 (by decide) ?_
        exact l_rE4z hG hx (p := p) (l := l) (t := t) (wi := wi) (i := i + 1) (by omega) (K0 J3 q2 (hct _ (PD.Mbad hc h1)) (h2.ad f3 d3) (((fj.tr rdP.nx).tr f2).tr (rdP.rg f3)))
    · skip
      refine x_if_eq_t (pc := 24) (tgt := 50) dX3_readEither_24 (by decide) (by decide) ?_
      refine x_iload_n (pc := 50) dX3_readEither_50 rfl rfl ?_
      refine x_ireturn (pc := 51) dX3_readEither_51 ⟨_, rfl, by decide⟩ ⟨Nat.le_refl _, Nat.le_refl _⟩ ?_
      have hn : nxX t q ≠ 124 := hc
      exact K1 J q e (hct _ (PD.Mend hn8 hn)) hs fj

set_option maxHeartbeats 4000000 in
set_option maxRecDepth 100000 in
theorem c_readEither4 {T : xT} {n : Nat} {sh : Nat → Nat × Nat} {I : xI} {R : xR} {L : xL} {P : xPost} {lr nw im tr rd hu se ac M : Nat} (hG : GEO sh R lr nw im tr rd hu se ac M) {t : xX} (hx : XOK t) {p wi : Nat} {l : List (Nat × Nat × Nat)} (hs : RDS I rd t p l) (hk : 4 ≤ wi) (hw4 : wi ≤ 4) (K1 : ∀ (J : xI) (q : Nat) (e : xCE), PD (nxX t) 3 wi p none (q, some e) → RDS J rd t q (l ++ e.1) → rdP rd I J → P (n, sh, 0, 0) J R L (some (.int 1))) (K0 : ∀ (J : xI) (q : Nat), PD (nxX t) 3 wi p none (q, none) → RDX J rd t q → rdP rd I J → P (n, sh, 0, 0) J R L (some (.int 0)))  : XM T zX3_readEither 4 [.ref rd, .int (nI wi)] n sh I R L P := by
  refine x_aload_n (pc := 0) dX3_readEither_0 rfl rfl ?_
  refine x_iload_n (pc := 1) dX3_readEither_1 rfl rfl ?_
  refine x_callV (pc := 2) (As := [.int _]) dX3_readEither_2 km_X3_readBoth kv_X3_readBoth kl_RX3_73 hG.g_rd rfl rfl (by decide) ⟨Nat.le_refl _, Nat.le_refl _⟩ rfl (Nat.le_of_ble_eq_true rfl) (Nat.le_of_ble_eq_true rfl) (c_readBoth4 hG hx hs hk hw4 (fun J q e h1 hn2 h2 f2 => ⟨rfl, rfl, ?_⟩) (fun J q h1 h2 f2 => ⟨rfl, rfl, ?_⟩))
  · skip
    refine x_istore_n (pc := 5) (lv' := [(0, .ref rd), (1, .int (nI wi)), (2, .int 1)]) dX3_readEither_5 rfl (by decide) rfl ?_
    refine x_iconst (pc := 6) (v := 0) dX3_readEither_6 (by decide) ?_
    refine x_istore_n (pc := 7) (lv' := [(0, .ref rd), (1, .int (nI wi)), (2, .int 1), (3, .int 0)]) dX3_readEither_7 rfl (by decide) rfl ?_
    exact l_rE4 hG hx hk hw4 K1 K0 100 0 (by omega) J q e hn2 h2 (by omega) (fun r hr => PD.Ego h1 hr) f2
  · skip
    refine x_istore_n (pc := 5) (lv' := [(0, .ref rd), (1, .int (nI wi)), (2, .int 0)]) dX3_readEither_5 rfl (by decide) rfl ?_
    refine x_iconst (pc := 6) (v := 0) dX3_readEither_6 (by decide) ?_
    refine x_istore_n (pc := 7) (lv' := [(0, .ref rd), (1, .int (nI wi)), (2, .int 0), (3, .int 0)]) dX3_readEither_7 rfl (by decide) rfl ?_
    exact l_rE4z hG hx (p := p) (l := l) (t := t) (wi := wi) (i := 0) (by omega) (K0 J q (PD.Ebad h1) h2 f2)

set_option maxHeartbeats 4000000 in
set_option maxRecDepth 100000 in
theorem l_rO3 {T : xT} {n : Nat} {sh : Nat → Nat × Nat} {I : xI} {R : xR} {L : xL} {P : xPost} {lr nw im tr rd hu se ac M : Nat} (hG : GEO sh R lr nw im tr rd hu se ac M) {t : xX} (hx : XOK t) {p wi : Nat} {l : List (Nat × Nat × Nat)} (hw4 : wi ≤ 4) (K : ∀ (J : xI) (j : Nat), BGs (nxX t) wi p j → RDS J rd t (p + j) l → rdP rd I J → X T zX3_readOne 5 0 0 P 22 [(0, .ref rd), (1, .int (nI wi)), (2, .int (nI (wi + j)))] [] (n, sh, 0, 0) J R L)  : ∀ (w i : Nat), i + w = 4 - wi → ∀ (J : xI), RDS J rd t (p + i) l → (∀ k, k < i → nxX t (p + k) = 33) → rdP rd I J → X T zX3_readOne 5 0 0 P 2 [(0, .ref rd), (1, .int (nI wi)), (2, .int (nI (wi + i)))] [] (n, sh, 0, 0) (J) R L := by
  intro w
  induction w with
  | zero =>
    intro i hw J hs hb fj
    have hz : i = 4 - wi := by omega
    refine x_iload_n (pc := 2) dX3_readOne_2 rfl rfl ?_
    refine x_iconst (pc := 3) (v := 4) dX3_readOne_3 (by decide) ?_
    refine x_icmpn_ge_t (pc := 4) (tgt := 22) (a := (wi + i)) (b := 4) dX3_readOne_4 (by decide) (by omega) (by decide) (by omega) ?_
    exact X.keep [0, 1, 2] rfl (K J i ⟨by omega, hb, Or.inl (by omega)⟩ hs fj)
  | succ w ih =>
    intro i hw J hs hb fj
    have hi : i < 4 - wi := by omega
    refine x_iload_n (pc := 2) dX3_readOne_2 rfl rfl ?_
    refine x_iconst (pc := 3) (v := 4) dX3_readOne_3 (by decide) ?_
    refine x_icmpn_ge_f (pc := 4) (tgt := 22) (a := (wi + i)) (b := 4) dX3_readOne_4 (by decide) (by omega) (by decide) (by omega) ?_
    refine x_aload_n (pc := 7) dX3_readOne_7 rfl rfl ?_
    refine x_bipush (pc := 8) (v := 33) dX3_readOne_8 (by decide) ?_
    refine x_callV (pc := 10) (As := [.int _]) dX3_readOne_10 km_X3_accept kv_X3_accept kl_RX3_34 hG.g_rd rfl rfl (by decide) ⟨Nat.le_refl _, Nat.le_refl _⟩ rfl (Nat.le_of_ble_eq_true rfl) (Nat.le_of_ble_eq_true rfl) (c_accept (c := 33) hG hs.1 hx hs.2.1 hs.2.2.1 (by decide) (fun hc hlt => ⟨rfl, rfl, ?_⟩) (fun hc => ⟨rfl, rfl, ?_⟩))
    · skip
      refine x_if_eq_f (pc := 13) (tgt := 22) dX3_readOne_13 (by decide) (by decide) ?_
      refine x_iinc (pc := 16) (v := nI (wi + i + 1)) (lv' := [(0, .ref rd), (1, .int (nI wi)), (2, .int (nI (wi + i + 1)))]) dX3_readOne_16 rfl (nI_1 _) (by decide) rfl ?_
      refine x_goto (pc := 19) (tgt := 2) dX3_readOne_19 (by decide) ?_
      refine ih (i + 1) (by omega) _ (hs.nx hlt) (fun k hk => ?_) (fj.tr rdP.nx)
      rcases Nat.lt_succ_iff_lt_or_eq.mp hk with z | z
      · exact hb k z
      · rw [z]; exact hc
    · skip
      refine x_if_eq_t (pc := 13) (tgt := 22) dX3_readOne_13 (by decide) (by decide) ?_
      exact X.keep [0, 1, 2] rfl (K J i ⟨by omega, hb, Or.inr hc⟩ hs fj)

set_option maxHeartbeats 4000000 in
set_option maxRecDepth 100000 in
theorem l_rO3e {T : xT} {n : Nat} {sh : Nat → Nat × Nat} {I : xI} {R : xR} {L : xL} {P : xPost} {lr nw im tr rd hu se ac M : Nat} (hG : GEO sh R lr nw im tr rd hu se ac M) {t : xX} (hx : XOK t) {p wi : Nat} {l : List (Nat × Nat × Nat)} {j q : Nat} {e : xCE} (hs : RDS I rd t q (l ++ e.1)) (hw4 : wi + j ≤ 4) (hl : l.length + e.1.length + j ≤ q) (K : ∀ J : xI, RDS J rd t q (l ++ (eN j e).1) → rdP rd I J → P (n, sh, 0, 0) J R L (some (.int 1)))  :  X T zX3_readOne 5 0 0 P 183 [(0, .ref rd), (1, .int (nI wi)), (2, .int (nI (wi + j)))] [] (n, sh, 0, 0) (I) R L := by
  refine x_iload_n (pc := 183) dX3_readOne_183 rfl rfl ?_
  refine x_iload_n (pc := 184) dX3_readOne_184 rfl rfl ?_
  refine x_isub (pc := 185) dX3_readOne_185 ?_
  rw [show nI (wi + j) - nI wi = nI j from by rw [pk_sub (by omega), Nat.add_sub_cancel_left]]
  refine x_iconst (pc := 186) (v := 2) dX3_readOne_186 (by decide) ?_
  refine x_iremn (pc := 187) (a := j) (b := 2) dX3_readOne_187 (by omega) (by decide) (by decide) ?_
  refine x_ifn_eq (pc := 188) (tgt := 202) (a := (j % 2)) dX3_readOne_188 (by decide) (by omega) (fun c188 => ?_) (fun c188 => ?_)
  · skip
    refine x_iconst (pc := 202) (v := 1) dX3_readOne_202 (by decide) ?_
    refine x_ireturn (pc := 203) dX3_readOne_203 ⟨_, rfl, by decide⟩ ⟨Nat.le_refl _, Nat.le_refl _⟩ ?_
    first
    | exact K J (hs.ad hx fJ dJ (by rw [List.length_append]; omega) (by show l ++ (e.1 ++ (if j % 2 = 1 then [(33, 0, 0)] else [])) = _; rw [if_pos (by omega), List.append_assoc])) (rdP.rg fJ)
    | exact K I (by rw [show l ++ (eN j e).1 = l ++ e.1 from by show l ++ (e.1 ++ (if j % 2 = 1 then [(33, 0, 0)] else [])) = _; rw [if_neg (by omega), List.append_nil]]; exact hs) rdP.rf
  · skip
    refine x_aload_n (pc := 191) dX3_readOne_191 rfl rfl ?_
    refine x_getr (pc := 192) dX3_readOne_192 kf_RX3_23 hG.g_rd rfl hG.g_rd1 ?_
    refine x_bipush (pc := 195) (v := 33) dX3_readOne_195 (by decide) ?_
    refine x_iconst (pc := 197) (v := 0) dX3_readOne_197 (by decide) ?_
    refine x_iconst (pc := 198) (v := 0) dX3_readOne_198 (by decide) ?_
    refine x_callV (pc := 199) (As := [.int _, .int _, .int _]) dX3_readOne_199 km_X4_add kv_X4_add kl_RX3_69 hG.g_draft.1 rfl rfl (by decide) ⟨Nat.le_refl _, Nat.le_refl _⟩ rfl (Nat.le_of_ble_eq_true rfl) (Nat.le_of_ble_eq_true rfl) (c_rgAdd (p := 33) (s := 0) (k := 0) hG.g_draft hs.2.2.2.1 (fun J dJ fJ => ⟨rfl, rfl, ?_⟩))
    refine x_iconst (pc := 202) (v := 1) dX3_readOne_202 (by decide) ?_
    refine x_ireturn (pc := 203) dX3_readOne_203 ⟨_, rfl, by decide⟩ ⟨Nat.le_refl _, Nat.le_refl _⟩ ?_
    first
    | exact K J (hs.ad hx fJ dJ (by rw [List.length_append]; omega) (by show l ++ (e.1 ++ (if j % 2 = 1 then [(33, 0, 0)] else [])) = _; rw [if_pos (by omega), List.append_assoc])) (rdP.rg fJ)
    | exact K I (by rw [show l ++ (eN j e).1 = l ++ e.1 from by show l ++ (e.1 ++ (if j % 2 = 1 then [(33, 0, 0)] else [])) = _; rw [if_neg (by omega), List.append_nil]]; exact hs) rdP.rf

set_option maxHeartbeats 4000000 in
set_option maxRecDepth 100000 in
theorem l_rO3c {T : xT} {n : Nat} {sh : Nat → Nat × Nat} {I : xI} {R : xR} {L : xL} {P : xPost} {lr nw im tr rd hu se ac M : Nat} (hG : GEO sh R lr nw im tr rd hu se ac M) {t : xX} (hx : XOK t) {p wi : Nat} {l : List (Nat × Nat × Nat)} {j : Nat} (hb : BGs (nxX t) wi p j) (h4 : wi + j = 4 ∨ nxX t (p + j) ≠ 40) (hlt : isLt (nxX t (p + j))) (hsg : isSg (nxX t (p + j + 1))) (hs : RDS I rd t (p + j + 1) l) (hl : l.length ≤ p) (K1 : ∀ (J : xI) (q : Nat) (e : xCE), PD (nxX t) 0 wi p none (q, some e) → RDS J rd t q (l ++ e.1) → rdP rd I J → P (n, sh, 0, 0) J R L (some (.int 1))) (K0 : ∀ (J : xI) (q : Nat), PD (nxX t) 0 wi p none (q, none) → RDX J rd t q → rdP rd I J → P (n, sh, 0, 0) J R L (some (.int 0)))  :  X T zX3_readOne 5 0 0 P 147 [(0, .ref rd), (1, .int (nI wi)), (2, .int (nI (wi + j))), (3, .int (nI (nxX t (p + j)))), (4, .int (nI (nxX t (p + j + 1))))] [] (n, sh, 0, 0) (I) R L := by
  have x100 := hx.1
  have l1 : p + j + 1 < t.1 := by
    have : 60 ≤ nxX t (p + j + 1) ∧ nxX t (p + j + 1) ≤ 62 := hsg
    exact nxX_lt rfl (by omega)
  have hs2 := hs.nx l1
  refine x_aload_n (pc := 147) dX3_readOne_147 rfl rfl ?_
  refine x_dup (pc := 148) dX3_readOne_148 rfl ?_
  refine x_get (pc := 149) dX3_readOne_149 kf_RX3_27 hG.g_rd rfl ?_
  rw [hs.2.1]
  refine x_iconst (pc := 152) (v := 1) dX3_readOne_152 (by decide) ?_
  refine x_iaddn (pc := 153) (a := (p + j + 1)) (b := 1) dX3_readOne_153 ?_
  refine x_put (pc := 154) dX3_readOne_154 kf_RX3_27 hG.g_rd rfl (Or.inl kb_3_2) ?_
  refine x_aload_n (pc := 157) dX3_readOne_157 rfl rfl ?_
  refine x_callV (pc := 158) (As := []) dX3_readOne_158 km_X3_readNumber kv_X3_readNumber kl_RX3_59 hG.g_rd rfl rfl (by decide) ⟨Nat.le_refl _, Nat.le_refl _⟩ rfl (Nat.le_of_ble_eq_true rfl) (Nat.le_of_ble_eq_true rfl) (c_readNumber (p := p + j + 2) hG hs2.1 hx hs2.2.1 hs2.2.2.1 (fun q k hn hq J eJ fJ => ⟨rfl, rfl, ?_⟩) (fun hn => ⟨rfl, rfl, ?_⟩))
  · skip
    have hk := (numF_p hn).2
    have hq1 := (numF_p hn).1
    have hs3 := hs2.go fJ eJ hq (show p + j + 1 + 1 ≤ q by have : p + j + 2 + 1 ≤ q := hq1; omega)
    refine x_istore (pc := 161) (lv' := [(0, .ref rd), (1, .int (nI wi)), (2, .int (nI (wi + j))), (3, .int (nI (nxX t (p + j)))), (4, .int (nI (nxX t (p + j + 1)))), (5, .int (nI k))]) dX3_readOne_161 (by decide) rfl ?_
    refine x_iload (pc := 163) dX3_readOne_163 rfl ?_
    refine x_iconst (pc := 165) (v := -1) dX3_readOne_165 (by decide) ?_
    refine x_icmp_ne_t (pc := 166) (tgt := 171) dX3_readOne_166 (by decide) (nI_nem (by omega)) ?_
    refine x_aload_n (pc := 171) dX3_readOne_171 rfl rfl ?_
    refine x_getr (pc := 172) dX3_readOne_172 kf_RX3_23 hG.g_rd rfl hG.g_rd1 ?_
    refine x_iload_n (pc := 175) dX3_readOne_175 rfl rfl ?_
    refine x_iload (pc := 176) dX3_readOne_176 rfl ?_
    refine x_iload (pc := 178) dX3_readOne_178 rfl ?_
    refine x_callV (pc := 180) (As := [.int _, .int _, .int _]) dX3_readOne_180 km_X4_add kv_X4_add kl_RX3_69 hG.g_draft.1 rfl rfl (by decide) ⟨Nat.le_refl _, Nat.le_refl _⟩ rfl (Nat.le_of_ble_eq_true rfl) (Nat.le_of_ble_eq_true rfl) (c_rgAdd (p := nxX t (p + j)) (s := nxX t (p + j + 1)) (k := k) hG.g_draft hs3.2.2.2.1 (fun J2 dJ f2 => ⟨rfl, rfl, ?_⟩))
    have hq1 : p + j + 2 + 1 ≤ q := hq1
    exact X.keep [0, 1, 2] rfl (l_rO3e (p := p) (e := eT (nxX t (p + j)) (nxX t (p + j + 1)) k) (l := l) (j := j) hG hx (hs3.ad hx f2 dJ (by omega) rfl) hb.1 (by show l.length + 1 + j ≤ q; omega) (fun J3 hs4 f3 => K1 J3 q _ (PD.tok hb h4 (tstF_3 hlt hsg hn)) hs4 (((rdP.nx.tr (rdP.ne fJ)).tr (rdP.rg f2)).tr f3)))
  · skip
    refine x_istore (pc := 161) (lv' := [(0, .ref rd), (1, .int (nI wi)), (2, .int (nI (wi + j))), (3, .int (nI (nxX t (p + j)))), (4, .int (nI (nxX t (p + j + 1)))), (5, .int (-1))]) dX3_readOne_161 (by decide) rfl ?_
    refine x_iload (pc := 163) dX3_readOne_163 rfl ?_
    refine x_iconst (pc := 165) (v := -1) dX3_readOne_165 (by decide) ?_
    refine x_icmp_ne_f (pc := 166) (tgt := 171) dX3_readOne_166 (by decide) (by decide) ?_
    refine x_iconst (pc := 169) (v := 0) dX3_readOne_169 (by decide) ?_
    refine x_ireturn (pc := 170) dX3_readOne_170 ⟨_, rfl, by decide⟩ ⟨Nat.le_refl _, Nat.le_refl _⟩ ?_
    exact K0 _ _ (PD.tbad hb h4 (tstF_2 hlt hsg hn)) hs2.x rdP.nx

set_option maxHeartbeats 4000000 in
set_option maxRecDepth 100000 in
theorem l_rO3b {T : xT} {n : Nat} {sh : Nat → Nat × Nat} {I : xI} {R : xR} {L : xL} {P : xPost} {lr nw im tr rd hu se ac M : Nat} (hG : GEO sh R lr nw im tr rd hu se ac M) {t : xX} (hx : XOK t) {p wi : Nat} {l : List (Nat × Nat × Nat)} {j : Nat} (hb : BGs (nxX t) wi p j) (h4 : wi + j = 4 ∨ nxX t (p + j) ≠ 40) (hlt : isLt (nxX t (p + j))) (hs : RDS I rd t (p + j) l) (hl : l.length ≤ p) (K1 : ∀ (J : xI) (q : Nat) (e : xCE), PD (nxX t) 0 wi p none (q, some e) → RDS J rd t q (l ++ e.1) → rdP rd I J → P (n, sh, 0, 0) J R L (some (.int 1))) (K0 : ∀ (J : xI) (q : Nat), PD (nxX t) 0 wi p none (q, none) → RDX J rd t q → rdP rd I J → P (n, sh, 0, 0) J R L (some (.int 0)))  :  X T zX3_readOne 5 0 0 P 101 [(0, .ref rd), (1, .int (nI wi)), (2, .int (nI (wi + j))), (3, .int (nI (nxX t (p + j))))] [] (n, sh, 0, 0) (I) R L := by
  have x100 := hx.1
  have l1 : p + j < t.1 := nxX_lt rfl (by rcases hlt with z | z | z | z | z <;> rw [z] <;> decide)
  have hs2 := hs.nx l1
  refine x_aload_n (pc := 101) dX3_readOne_101 rfl rfl ?_
  refine x_dup (pc := 102) dX3_readOne_102 rfl ?_
  refine x_get (pc := 103) dX3_readOne_103 kf_RX3_27 hG.g_rd rfl ?_
  rw [hs.2.1]
  refine x_iconst (pc := 106) (v := 1) dX3_readOne_106 (by decide) ?_
  refine x_iaddn (pc := 107) (a := (p + j)) (b := 1) dX3_readOne_107 ?_
  refine x_put (pc := 108) dX3_readOne_108 kf_RX3_27 hG.g_rd rfl (Or.inl kb_3_2) ?_
  refine x_aload_n (pc := 111) dX3_readOne_111 rfl rfl ?_
  refine x_getr (pc := 112) dX3_readOne_112 kf_RX3_14 hG.g_rd rfl hG.g_rd0 ?_
  refine x_aload_n (pc := 115) dX3_readOne_115 rfl rfl ?_
  refine x_get (pc := 116) dX3_readOne_116 kf_RX3_27 hG.g_rd rfl ?_
  refine x_callV (pc := 119) (As := [.int _]) dX3_readOne_119 km_X5_at kv_X5_at kl_RX3_45 hG.g_text.1 rfl rfl (by decide) ⟨Nat.le_refl _, Nat.le_refl _⟩ rfl (Nat.le_of_ble_eq_true rfl) (Nat.le_of_ble_eq_true rfl) (c_at hG.g_text (⟨rfl, rfl, ?_⟩))
  rw [hs2.2.1, nC_at hs2.1 hx (by omega)]
  refine x_istore (pc := 122) (lv' := [(0, .ref rd), (1, .int (nI wi)), (2, .int (nI (wi + j))), (3, .int (nI (nxX t (p + j)))), (4, .int (nC (nxX t (p + j + 1))))]) dX3_readOne_122 (by decide) rfl ?_
  refine x_iload (pc := 124) dX3_readOne_124 rfl ?_
  refine x_bipush (pc := 126) (v := 60) dX3_readOne_126 (by decide) ?_
  refine x_icmp_eq (pc := 128) (tgt := 147) dX3_readOne_128 (by decide) (fun c128 => ?_) (fun c128 => ?_)
  · skip
    have hsg : isSg (nxX t (p + j + 1)) := by
      have z : nxX t (p + j + 1) = 60 ∨ nxX t (p + j + 1) = 61 ∨ nxX t (p + j + 1) = 62 := by
        first
        | exact Or.inl ((nC_eq (by decide)).mp c128)
        | exact Or.inr (Or.inl ((nC_eq (by decide)).mp c135))
        | exact Or.inr (Or.inr ((nC_eq (by decide)).mp c142))
      show 60 ≤ nxX t (p + j + 1) ∧ nxX t (p + j + 1) ≤ 62
      omega
    have h62 : 60 ≤ nxX t (p + j + 1) ∧ nxX t (p + j + 1) ≤ 62 := hsg
    rw [nC_lit (show nxX t (p + j + 1) < 256 by omega)]
    exact X.keep [0, 1, 2, 3, 4] rfl (l_rO3c hG hx hb h4 hlt hsg hs2 hl (fun J q e g1 g2 g3 => K1 J q e g1 g2 (rdP.nx.tr g3)) (fun J q g1 g2 g3 => K0 J q g1 g2 (rdP.nx.tr g3)))
  · skip
    refine x_iload (pc := 131) dX3_readOne_131 rfl ?_
    refine x_bipush (pc := 133) (v := 61) dX3_readOne_133 (by decide) ?_
    refine x_icmp_eq (pc := 135) (tgt := 147) dX3_readOne_135 (by decide) (fun c135 => ?_) (fun c135 => ?_)
    · skip
      have hsg : isSg (nxX t (p + j + 1)) := by
        have z : nxX t (p + j + 1) = 60 ∨ nxX t (p + j + 1) = 61 ∨ nxX t (p + j + 1) = 62 := by
          first
          | exact Or.inl ((nC_eq (by decide)).mp c128)
          | exact Or.inr (Or.inl ((nC_eq (by decide)).mp c135))
          | exact Or.inr (Or.inr ((nC_eq (by decide)).mp c142))
        show 60 ≤ nxX t (p + j + 1) ∧ nxX t (p + j + 1) ≤ 62
        omega
      have h62 : 60 ≤ nxX t (p + j + 1) ∧ nxX t (p + j + 1) ≤ 62 := hsg
      rw [nC_lit (show nxX t (p + j + 1) < 256 by omega)]
      exact X.keep [0, 1, 2, 3, 4] rfl (l_rO3c hG hx hb h4 hlt hsg hs2 hl (fun J q e g1 g2 g3 => K1 J q e g1 g2 (rdP.nx.tr g3)) (fun J q g1 g2 g3 => K0 J q g1 g2 (rdP.nx.tr g3)))
    · skip
      refine x_iload (pc := 138) dX3_readOne_138 rfl ?_
      refine x_bipush (pc := 140) (v := 62) dX3_readOne_140 (by decide) ?_
      refine x_icmp_eq (pc := 142) (tgt := 147) dX3_readOne_142 (by decide) (fun c142 => ?_) (fun c142 => ?_)
      · skip
        have hsg : isSg (nxX t (p + j + 1)) := by
          have z : nxX t (p + j + 1) = 60 ∨ nxX t (p + j + 1) = 61 ∨ nxX t (p + j + 1) = 62 := by
            first
            | exact Or.inl ((nC_eq (by decide)).mp c128)
            | exact Or.inr (Or.inl ((nC_eq (by decide)).mp c135))
            | exact Or.inr (Or.inr ((nC_eq (by decide)).mp c142))
          show 60 ≤ nxX t (p + j + 1) ∧ nxX t (p + j + 1) ≤ 62
          omega
        have h62 : 60 ≤ nxX t (p + j + 1) ∧ nxX t (p + j + 1) ≤ 62 := hsg
        rw [nC_lit (show nxX t (p + j + 1) < 256 by omega)]
        exact X.keep [0, 1, 2, 3, 4] rfl (l_rO3c hG hx hb h4 hlt hsg hs2 hl (fun J q e g1 g2 g3 => K1 J q e g1 g2 (rdP.nx.tr g3)) (fun J q g1 g2 g3 => K0 J q g1 g2 (rdP.nx.tr g3)))
      · skip
        refine x_iconst (pc := 145) (v := 0) dX3_readOne_145 (by decide) ?_
        refine x_ireturn (pc := 146) dX3_readOne_146 ⟨_, rfl, by decide⟩ ⟨Nat.le_refl _, Nat.le_refl _⟩ ?_
        exact K0 _ _ (PD.tbad hb h4 (tstF_1 hlt (fun q => by
          have q : 60 ≤ nxX t (p + j + 1) ∧ nxX t (p + j + 1) ≤ 62 := q
          have z : nxX t (p + j + 1) = 60 ∨ nxX t (p + j + 1) = 61 ∨ nxX t (p + j + 1) = 62 := by omega
          rcases z with z | z | z
          · exact c128 ((nC_eq (by decide)).mpr z)
          · exact c135 ((nC_eq (by decide)).mpr z)
          · exact c142 ((nC_eq (by decide)).mpr z)))) hs2.x rdP.nx

set_option maxHeartbeats 4000000 in
set_option maxRecDepth 100000 in
theorem l_rO3a {T : xT} {n : Nat} {sh : Nat → Nat × Nat} {I : xI} {R : xR} {L : xL} {P : xPost} {lr nw im tr rd hu se ac M : Nat} (hG : GEO sh R lr nw im tr rd hu se ac M) {t : xX} (hx : XOK t) {p wi : Nat} {l : List (Nat × Nat × Nat)} {j : Nat} (hb : BGs (nxX t) wi p j) (h4 : wi + j = 4 ∨ nxX t (p + j) ≠ 40) (hs : RDS I rd t (p + j) l) (hl : l.length ≤ p) (K1 : ∀ (J : xI) (q : Nat) (e : xCE), PD (nxX t) 0 wi p none (q, some e) → RDS J rd t q (l ++ e.1) → rdP rd I J → P (n, sh, 0, 0) J R L (some (.int 1))) (K0 : ∀ (J : xI) (q : Nat), PD (nxX t) 0 wi p none (q, none) → RDX J rd t q → rdP rd I J → P (n, sh, 0, 0) J R L (some (.int 0)))  :  X T zX3_readOne 5 0 0 P 57 [(0, .ref rd), (1, .int (nI wi)), (2, .int (nI (wi + j)))] [] (n, sh, 0, 0) (I) R L := by
  have x100 := hx.1
  refine x_aload_n (pc := 57) dX3_readOne_57 rfl rfl ?_
  refine x_getr (pc := 58) dX3_readOne_58 kf_RX3_14 hG.g_rd rfl hG.g_rd0 ?_
  refine x_aload_n (pc := 61) dX3_readOne_61 rfl rfl ?_
  refine x_get (pc := 62) dX3_readOne_62 kf_RX3_27 hG.g_rd rfl ?_
  refine x_callV (pc := 65) (As := [.int _]) dX3_readOne_65 km_X5_at kv_X5_at kl_RX3_45 hG.g_text.1 rfl rfl (by decide) ⟨Nat.le_refl _, Nat.le_refl _⟩ rfl (Nat.le_of_ble_eq_true rfl) (Nat.le_of_ble_eq_true rfl) (c_at hG.g_text (⟨rfl, rfl, ?_⟩))
  rw [hs.2.1, nC_at hs.1 hx (by have := hs.2.2.1; omega)]
  refine x_istore_n (pc := 68) (lv' := [(0, .ref rd), (1, .int (nI wi)), (2, .int (nI (wi + j))), (3, .int (nC (nxX t (p + j))))]) dX3_readOne_68 rfl (by decide) rfl ?_
  refine x_iload_n (pc := 69) dX3_readOne_69 rfl rfl ?_
  refine x_bipush (pc := 70) (v := 110) dX3_readOne_70 (by decide) ?_
  refine x_icmp_eq (pc := 72) (tgt := 101) dX3_readOne_72 (by decide) (fun c72 => ?_) (fun c72 => ?_)
  · skip
    have hlt : isLt (nxX t (p + j)) := by
      first
      | exact Or.inl ((nC_eq (by decide)).mp c72)
      | exact Or.inr (Or.inl ((nC_eq (by decide)).mp c78))
      | exact Or.inr (Or.inr (Or.inl ((nC_eq (by decide)).mp c84)))
      | exact Or.inr (Or.inr (Or.inr (Or.inl ((nC_eq (by decide)).mp c90))))
      | exact Or.inr (Or.inr (Or.inr (Or.inr ((nC_eq (by decide)).mp c96))))
    have h128 : nxX t (p + j) < 256 := by rcases hlt with z | z | z | z | z <;> rw [z] <;> decide
    rw [nC_lit h128]
    exact X.keep [0, 1, 2, 3] rfl (l_rO3b hG hx hb h4 hlt hs hl K1 K0)
  · skip
    refine x_iload_n (pc := 75) dX3_readOne_75 rfl rfl ?_
    refine x_bipush (pc := 76) (v := 104) dX3_readOne_76 (by decide) ?_
    refine x_icmp_eq (pc := 78) (tgt := 101) dX3_readOne_78 (by decide) (fun c78 => ?_) (fun c78 => ?_)
    · skip
      have hlt : isLt (nxX t (p + j)) := by
        first
        | exact Or.inl ((nC_eq (by decide)).mp c72)
        | exact Or.inr (Or.inl ((nC_eq (by decide)).mp c78))
        | exact Or.inr (Or.inr (Or.inl ((nC_eq (by decide)).mp c84)))
        | exact Or.inr (Or.inr (Or.inr (Or.inl ((nC_eq (by decide)).mp c90))))
        | exact Or.inr (Or.inr (Or.inr (Or.inr ((nC_eq (by decide)).mp c96))))
      have h128 : nxX t (p + j) < 256 := by rcases hlt with z | z | z | z | z <;> rw [z] <;> decide
      rw [nC_lit h128]
      exact X.keep [0, 1, 2, 3] rfl (l_rO3b hG hx hb h4 hlt hs hl K1 K0)
    · skip
      refine x_iload_n (pc := 81) dX3_readOne_81 rfl rfl ?_
      refine x_bipush (pc := 82) (v := 98) dX3_readOne_82 (by decide) ?_
      refine x_icmp_eq (pc := 84) (tgt := 101) dX3_readOne_84 (by decide) (fun c84 => ?_) (fun c84 => ?_)
      · skip
        have hlt : isLt (nxX t (p + j)) := by
          first
          | exact Or.inl ((nC_eq (by decide)).mp c72)
          | exact Or.inr (Or.inl ((nC_eq (by decide)).mp c78))
          | exact Or.inr (Or.inr (Or.inl ((nC_eq (by decide)).mp c84)))
          | exact Or.inr (Or.inr (Or.inr (Or.inl ((nC_eq (by decide)).mp c90))))
          | exact Or.inr (Or.inr (Or.inr (Or.inr ((nC_eq (by decide)).mp c96))))
        have h128 : nxX t (p + j) < 256 := by rcases hlt with z | z | z | z | z <;> rw [z] <;> decide
        rw [nC_lit h128]
        exact X.keep [0, 1, 2, 3] rfl (l_rO3b hG hx hb h4 hlt hs hl K1 K0)
      · skip
        refine x_iload_n (pc := 87) dX3_readOne_87 rfl rfl ?_
        refine x_bipush (pc := 88) (v := 99) dX3_readOne_88 (by decide) ?_
        refine x_icmp_eq (pc := 90) (tgt := 101) dX3_readOne_90 (by decide) (fun c90 => ?_) (fun c90 => ?_)
        · skip
          have hlt : isLt (nxX t (p + j)) := by
            first
            | exact Or.inl ((nC_eq (by decide)).mp c72)
            | exact Or.inr (Or.inl ((nC_eq (by decide)).mp c78))
            | exact Or.inr (Or.inr (Or.inl ((nC_eq (by decide)).mp c84)))
            | exact Or.inr (Or.inr (Or.inr (Or.inl ((nC_eq (by decide)).mp c90))))
            | exact Or.inr (Or.inr (Or.inr (Or.inr ((nC_eq (by decide)).mp c96))))
          have h128 : nxX t (p + j) < 256 := by rcases hlt with z | z | z | z | z <;> rw [z] <;> decide
          rw [nC_lit h128]
          exact X.keep [0, 1, 2, 3] rfl (l_rO3b hG hx hb h4 hlt hs hl K1 K0)
        · skip
          refine x_iload_n (pc := 93) dX3_readOne_93 rfl rfl ?_
          refine x_bipush (pc := 94) (v := 116) dX3_readOne_94 (by decide) ?_
          refine x_icmp_eq (pc := 96) (tgt := 101) dX3_readOne_96 (by decide) (fun c96 => ?_) (fun c96 => ?_)
          · skip
            have hlt : isLt (nxX t (p + j)) := by
              first
              | exact Or.inl ((nC_eq (by decide)).mp c72)
              | exact Or.inr (Or.inl ((nC_eq (by decide)).mp c78))
              | exact Or.inr (Or.inr (Or.inl ((nC_eq (by decide)).mp c84)))
              | exact Or.inr (Or.inr (Or.inr (Or.inl ((nC_eq (by decide)).mp c90))))
              | exact Or.inr (Or.inr (Or.inr (Or.inr ((nC_eq (by decide)).mp c96))))
            have h128 : nxX t (p + j) < 256 := by rcases hlt with z | z | z | z | z <;> rw [z] <;> decide
            rw [nC_lit h128]
            exact X.keep [0, 1, 2, 3] rfl (l_rO3b hG hx hb h4 hlt hs hl K1 K0)
          · skip
            refine x_iconst (pc := 99) (v := 0) dX3_readOne_99 (by decide) ?_
            refine x_ireturn (pc := 100) dX3_readOne_100 ⟨_, rfl, by decide⟩ ⟨Nat.le_refl _, Nat.le_refl _⟩ ?_
            exact K0 _ _ (PD.tbad hb h4 (tstF_0 (fun q => by
              rcases q with z | z | z | z | z
              · exact c72 ((nC_eq (by decide)).mpr z)
              · exact c78 ((nC_eq (by decide)).mpr z)
              · exact c84 ((nC_eq (by decide)).mpr z)
              · exact c90 ((nC_eq (by decide)).mpr z)
              · exact c96 ((nC_eq (by decide)).mpr z)))) hs.x rdP.rf

set_option maxHeartbeats 4000000 in
set_option maxRecDepth 100000 in
theorem l_rO3d {T : xT} {n : Nat} {sh : Nat → Nat × Nat} {I : xI} {R : xR} {L : xL} {P : xPost} {lr nw im tr rd hu se ac M : Nat} (hG : GEO sh R lr nw im tr rd hu se ac M) {t : xX} (hx : XOK t) {p wi : Nat} {l : List (Nat × Nat × Nat)} {j : Nat} (hb : BGs (nxX t) wi p j) (hs : RDS I rd t (p + j) l) (hl : l.length ≤ p) (hk : 3 ≤ wi) (K1 : ∀ (J : xI) (q : Nat) (e : xCE), PD (nxX t) 0 wi p none (q, some e) → RDS J rd t q (l ++ e.1) → rdP rd I J → P (n, sh, 0, 0) J R L (some (.int 1))) (K0 : ∀ (J : xI) (q : Nat), PD (nxX t) 0 wi p none (q, none) → RDX J rd t q → rdP rd I J → P (n, sh, 0, 0) J R L (some (.int 0)))  :  X T zX3_readOne 5 0 0 P 22 [(0, .ref rd), (1, .int (nI wi)), (2, .int (nI (wi + j)))] [] (n, sh, 0, 0) (I) R L := by
  have hb1 := hb.1
  refine x_iload_n (pc := 22) dX3_readOne_22 rfl rfl ?_
  refine x_iconst (pc := 23) (v := 4) dX3_readOne_23 (by decide) ?_
  refine x_icmpn_ge (pc := 24) (tgt := 57) (a := (wi + j)) (b := 4) dX3_readOne_24 (by decide) (by omega) (by decide) (fun c24 => ?_) (fun c24 => ?_)
  · skip
    first
    | exact X.keep [0, 1, 2] rfl (l_rO3a hG hx hb (Or.inr hc) hs hl K1 K0)
    | exact X.keep [0, 1, 2] rfl (l_rO3a hG hx hb (Or.inl (by omega)) hs hl K1 K0)
  · skip
    refine x_aload_n (pc := 27) dX3_readOne_27 rfl rfl ?_
    refine x_bipush (pc := 28) (v := 40) dX3_readOne_28 (by decide) ?_
    refine x_callV (pc := 30) (As := [.int _]) dX3_readOne_30 km_X3_accept kv_X3_accept kl_RX3_34 hG.g_rd rfl rfl (by decide) ⟨Nat.le_refl _, Nat.le_refl _⟩ rfl (Nat.le_of_ble_eq_true rfl) (Nat.le_of_ble_eq_true rfl) (c_accept (c := 40) hG hs.1 hx hs.2.1 hs.2.2.1 (by decide) (fun hc hlt => ⟨rfl, rfl, ?_⟩) (fun hc => ⟨rfl, rfl, ?_⟩))
    · skip
      refine x_if_eq_f (pc := 33) (tgt := 57) dX3_readOne_33 (by decide) (by decide) ?_
      refine x_aload_n (pc := 36) dX3_readOne_36 rfl rfl ?_
      refine x_iload_n (pc := 37) dX3_readOne_37 rfl rfl ?_
      refine x_iconst (pc := 38) (v := 1) dX3_readOne_38 (by decide) ?_
      refine x_iaddn (pc := 39) (a := (wi + j)) (b := 1) dX3_readOne_39 ?_
      refine x_callV (pc := 40) (As := [.int _]) dX3_readOne_40 km_X3_readEither kv_X3_readEither kl_RX3_66 hG.g_rd rfl rfl (by decide) ⟨Nat.le_refl _, Nat.le_refl _⟩ rfl (Nat.le_of_ble_eq_true rfl) (Nat.le_of_ble_eq_true rfl) (c_readEither4 (wi := wi + j + 1) hG hx (hs.nx hlt) (by omega) (by omega) (fun J q e h1 h2 fJ => ⟨rfl, rfl, ?_⟩) (fun J q h1 h2 fJ => ⟨rfl, rfl, ?_⟩))
      · skip
        refine x_if_eq_f (pc := 43) (tgt := 55) dX3_readOne_43 (by decide) (by decide) ?_
        refine x_aload_n (pc := 46) dX3_readOne_46 rfl rfl ?_
        refine x_bipush (pc := 47) (v := 41) dX3_readOne_47 (by decide) ?_
        refine x_callV (pc := 49) (As := [.int _]) dX3_readOne_49 km_X3_accept kv_X3_accept kl_RX3_34 hG.g_rd rfl rfl (by decide) ⟨Nat.le_refl _, Nat.le_refl _⟩ rfl (Nat.le_of_ble_eq_true rfl) (Nat.le_of_ble_eq_true rfl) (c_accept (c := 41) hG h2.1 hx h2.2.1 h2.2.2.1 (by decide) (fun hc2 hlt2 => ⟨rfl, rfl, ?_⟩) (fun hc2 => ⟨rfl, rfl, ?_⟩))
        · skip
          refine x_if_ne_t (pc := 52) (tgt := 183) dX3_readOne_52 (by decide) (by decide) ?_
          have g3 : p + j + 1 + e.1.length ≤ q := (pd_gd h1 e rfl).2.2.1
          exact X.keep [0, 1, 2] rfl (l_rO3e (p := p) (j := j) (e := e) hG hx (h2.nx hlt2) hb.1 (by omega) (fun J3 hs4 f3 => K1 J3 (q + 1) _ (PD.pok hb (by omega) hc h1 hc2) hs4 (((rdP.nx.tr fJ).tr rdP.nx).tr f3)))
        · skip
          refine x_if_ne_f (pc := 52) (tgt := 183) dX3_readOne_52 (by decide) (by decide) ?_
          refine x_iconst (pc := 55) (v := 0) dX3_readOne_55 (by decide) ?_
          refine x_ireturn (pc := 56) dX3_readOne_56 ⟨_, rfl, by decide⟩ ⟨Nat.le_refl _, Nat.le_refl _⟩ ?_
          first
          | exact K0 _ _ (PD.popen hb (by omega) hc h1 hc2) h2.x (rdP.nx.tr fJ)
          | exact K0 _ _ (PD.pbad hb (by omega) hc h1) h2 (rdP.nx.tr fJ)
      · skip
        refine x_if_eq_t (pc := 43) (tgt := 55) dX3_readOne_43 (by decide) (by decide) ?_
        refine x_iconst (pc := 55) (v := 0) dX3_readOne_55 (by decide) ?_
        refine x_ireturn (pc := 56) dX3_readOne_56 ⟨_, rfl, by decide⟩ ⟨Nat.le_refl _, Nat.le_refl _⟩ ?_
        first
        | exact K0 _ _ (PD.popen hb (by omega) hc h1 hc2) h2.x (rdP.nx.tr fJ)
        | exact K0 _ _ (PD.pbad hb (by omega) hc h1) h2 (rdP.nx.tr fJ)
    · skip
      refine x_if_eq_t (pc := 33) (tgt := 57) dX3_readOne_33 (by decide) (by decide) ?_
      first
      | exact X.keep [0, 1, 2] rfl (l_rO3a hG hx hb (Or.inr hc) hs hl K1 K0)
      | exact X.keep [0, 1, 2] rfl (l_rO3a hG hx hb (Or.inl (by omega)) hs hl K1 K0)

set_option maxHeartbeats 4000000 in
set_option maxRecDepth 100000 in
theorem c_readOne3 {T : xT} {n : Nat} {sh : Nat → Nat × Nat} {I : xI} {R : xR} {L : xL} {P : xPost} {lr nw im tr rd hu se ac M : Nat} (hG : GEO sh R lr nw im tr rd hu se ac M) {t : xX} (hx : XOK t) {p wi : Nat} {l : List (Nat × Nat × Nat)} (hs : RDS I rd t p l) (hk : 3 ≤ wi) (hw4 : wi ≤ 4) (K1 : ∀ (J : xI) (q : Nat) (e : xCE), PD (nxX t) 0 wi p none (q, some e) → RDS J rd t q (l ++ e.1) → rdP rd I J → P (n, sh, 0, 0) J R L (some (.int 1))) (K0 : ∀ (J : xI) (q : Nat), PD (nxX t) 0 wi p none (q, none) → RDX J rd t q → rdP rd I J → P (n, sh, 0, 0) J R L (some (.int 0)))  : XM T zX3_readOne 5 [.ref rd, .int (nI wi)] n sh I R L P := by
  refine x_iload_n (pc := 0) dX3_readOne_0 rfl rfl ?_
  refine x_istore_n (pc := 1) (lv' := [(0, .ref rd), (1, .int (nI wi)), (2, .int (nI wi))]) dX3_readOne_1 rfl (by decide) rfl ?_
  exact X.keep [0, 1, 2] rfl (l_rO3 hG hx hw4 (fun J j hb hs2 fj => l_rO3d hG hx hb hs2 hs.2.2.2.2 hk (fun J2 q e g1 g2 g3 => K1 J2 q e g1 g2 (fj.tr g3)) (fun J2 q g1 g2 g3 => K0 J2 q g1 g2 (fj.tr g3))) (4 - wi) 0 (by omega) I hs (fun k q => absurd q (by omega)) rdP.rf)

set_option maxHeartbeats 4000000 in
set_option maxRecDepth 100000 in
theorem l_rB3z {T : xT} {n : Nat} {sh : Nat → Nat × Nat} {I : xI} {R : xR} {L : xL} {P : xPost} {lr nw im tr rd hu se ac M : Nat} (hG : GEO sh R lr nw im tr rd hu se ac M) {t : xX} (hx : XOK t) {p wi : Nat} {l : List (Nat × Nat × Nat)} {i : Nat} (hi : i ≤ 100) (K : P (n, sh, 0, 0) I R L (some (.int 0)))  :  X T zX3_readBoth 6 0 0 P 8 [(0, .ref rd), (1, .int (nI wi)), (2, .int 0), (3, .int (nI i))] [] (n, sh, 0, 0) (I) R L := by
  refine x_iload_n (pc := 8) dX3_readBoth_8 rfl rfl ?_
  refine x_bipush (pc := 9) (v := 100) dX3_readBoth_9 (by decide) ?_
  refine x_icmpn_ge (pc := 11) (tgt := 50) (a := i) (b := 100) dX3_readBoth_11 (by decide) (by omega) (by decide) (fun c11 => ?_) (fun c11 => ?_)
  · skip
    refine x_iload_n (pc := 50) dX3_readBoth_50 rfl rfl ?_
    refine x_ireturn (pc := 51) dX3_readBoth_51 ⟨_, rfl, by decide⟩ ⟨Nat.le_refl _, Nat.le_refl _⟩ ?_
    exact K
  · skip
    refine x_iload_n (pc := 14) dX3_readBoth_14 rfl rfl ?_
    refine x_if_eq_t (pc := 15) (tgt := 50) dX3_readBoth_15 (by decide) (by decide) ?_
    refine x_iload_n (pc := 50) dX3_readBoth_50 rfl rfl ?_
    refine x_ireturn (pc := 51) dX3_readBoth_51 ⟨_, rfl, by decide⟩ ⟨Nat.le_refl _, Nat.le_refl _⟩ ?_
    exact K

set_option maxHeartbeats 4000000 in
set_option maxRecDepth 100000 in
theorem l_rB3 {T : xT} {n : Nat} {sh : Nat → Nat × Nat} {I : xI} {R : xR} {L : xL} {P : xPost} {lr nw im tr rd hu se ac M : Nat} (hG : GEO sh R lr nw im tr rd hu se ac M) {t : xX} (hx : XOK t) {p wi : Nat} {l : List (Nat × Nat × Nat)} (hk : 3 ≤ wi) (hw4 : wi ≤ 4) (K1 : ∀ (J : xI) (q : Nat) (e : xCE), PD (nxX t) 1 wi p none (q, some e) → nxX t q ≠ 38 → RDS J rd t q (l ++ e.1) → rdP rd I J → P (n, sh, 0, 0) J R L (some (.int 1))) (K0 : ∀ (J : xI) (q : Nat), PD (nxX t) 1 wi p none (q, none) → RDX J rd t q → rdP rd I J → P (n, sh, 0, 0) J R L (some (.int 0)))  : ∀ (w i : Nat), i + w = 100 → ∀ (J : xI) (q : Nat) (e : xCE), RDS J rd t q (l ++ e.1) → i ≤ q → (∀ r, PD (nxX t) 2 wi q (some e) r → PD (nxX t) 1 wi p none r) → rdP rd I J → X T zX3_readBoth 6 0 0 P 8 [(0, .ref rd), (1, .int (nI wi)), (2, .int 1), (3, .int (nI i))] [] (n, sh, 0, 0) (J) R L := by
  have x100 := hx.1
  intro w
  induction w with
  | zero =>
    intro i hw J q e hs hiq hct fj
    have hz : i = 100 := by omega
    refine x_iload_n (pc := 8) dX3_readBoth_8 rfl rfl ?_
    refine x_bipush (pc := 9) (v := 100) dX3_readBoth_9 (by decide) ?_
    refine x_icmpn_ge_t (pc := 11) (tgt := 50) (a := i) (b := 100) dX3_readBoth_11 (by decide) (by omega) (by decide) (by omega) ?_
    refine x_iload_n (pc := 50) dX3_readBoth_50 rfl rfl ?_
    refine x_ireturn (pc := 51) dX3_readBoth_51 ⟨_, rfl, by decide⟩ ⟨Nat.le_refl _, Nat.le_refl _⟩ ?_
    have hn : nxX t q ≠ 38 := by
      show (if q < t.1 then t.2 q else 256) ≠ 38
      rw [if_neg (by omega)]
      decide
    exact K1 J q e (hct _ (PD.Lend hn)) hn hs fj
  | succ w ih =>
    intro i hw J q e hs hiq hct fj
    have hi : i < 100 := by omega
    refine x_iload_n (pc := 8) dX3_readBoth_8 rfl rfl ?_
    refine x_bipush (pc := 9) (v := 100) dX3_readBoth_9 (by decide) ?_
    refine x_icmpn_ge_f (pc := 11) (tgt := 50) (a := i) (b := 100) dX3_readBoth_11 (by decide) (by omega) (by decide) (by omega) ?_
    refine x_iload_n (pc := 14) dX3_readBoth_14 rfl rfl ?_
    refine x_if_eq_f (pc := 15) (tgt := 50) dX3_readBoth_15 (by decide) (by decide) ?_
    refine x_aload_n (pc := 18) dX3_readBoth_18 rfl rfl ?_
    refine x_bipush (pc := 19) (v := 38) dX3_readBoth_19 (by decide) ?_
    refine x_callV (pc := 21) (As := [.int _]) dX3_readBoth_21 km_X3_accept kv_X3_accept kl_RX3_34 hG.g_rd rfl rfl (by decide) ⟨Nat.le_refl _, Nat.le_refl _⟩ rfl (Nat.le_of_ble_eq_true rfl) (Nat.le_of_ble_eq_true rfl) (c_accept (c := 38) hG hs.1 hx hs.2.1 hs.2.2.1 (by decide) (fun hc hlt => ⟨rfl, rfl, ?_⟩) (fun hc => ⟨rfl, rfl, ?_⟩))
    · skip
      refine x_if_eq_f (pc := 24) (tgt := 50) dX3_readBoth_24 (by decide) (by decide) ?_
      refine x_aload_n (pc := 27) dX3_readBoth_27 rfl rfl ?_
      refine x_iload_n (pc := 28) dX3_readBoth_28 rfl rfl ?_
      refine x_callV (pc := 29) (As := [.int _]) dX3_readBoth_29 km_X3_readOne kv_X3_readOne kl_RX3_76 hG.g_rd rfl rfl (by decide) ⟨Nat.le_refl _, Nat.le_refl _⟩ rfl (Nat.le_of_ble_eq_true rfl) (Nat.le_of_ble_eq_true rfl) (c_readOne3 hG hx (hs.nx hlt) hk hw4 (fun J2 q2 e2 h1 h2 f2 => ⟨rfl, rfl, ?_⟩) (fun J2 q2 h1 h2 f2 => ⟨rfl, rfl, ?_⟩))
      · skip
        refine x_istore_n (pc := 32) (lv' := [(0, .ref rd), (1, .int (nI wi)), (2, .int 1), (3, .int (nI i))]) dX3_readBoth_32 rfl (by decide) rfl ?_
        refine x_aload_n (pc := 33) dX3_readBoth_33 rfl rfl ?_
        refine x_getr (pc := 34) dX3_readBoth_34 kf_RX3_23 hG.g_rd rfl hG.g_rd1 ?_
        refine x_bipush (pc := 37) (v := 38) dX3_readBoth_37 (by decide) ?_
        refine x_iconst (pc := 39) (v := 0) dX3_readBoth_39 (by decide) ?_
        refine x_iconst (pc := 40) (v := 0) dX3_readBoth_40 (by decide) ?_
        refine x_callV (pc := 41) (As := [.int _, .int _, .int _]) dX3_readBoth_41 km_X4_add kv_X4_add kl_RX3_69 hG.g_draft.1 rfl rfl (by decide) ⟨Nat.le_refl _, Nat.le_refl _⟩ rfl (Nat.le_of_ble_eq_true rfl) (Nat.le_of_ble_eq_true rfl) (c_rgAdd (p := 38) (s := 0) (k := 0) hG.g_draft h2.2.2.2.1 (fun J3 d3 f3 => ⟨rfl, rfl, ?_⟩))
        refine x_iinc (pc := 44) (v := nI (i + 1)) (lv' := [(0, .ref rd), (1, .int (nI wi)), (2, .int 1), (3, .int (nI (i + 1)))]) dX3_readBoth_44 rfl (nI_1 _) (by decide) rfl ?_
        refine x_goto (pc := 47) (tgt := 8) dX3_readBoth_47 (by decide) ?_
        have g3 : q + 1 + e2.1.length ≤ q2 := (pd_gd h1 e2 rfl).2.2.1
        have hll := hs.2.2.2.2
        refine ih (i + 1) (by omega) J3 q2 (eA e e2) (h2.ad hx f3 d3 (by rw [List.length_append]; omega) ?_) (by omega) (fun r hr => hct r (PD.Lgo hc h1 hr)) (((fj.tr rdP.nx).tr f2).tr (rdP.rg f3))
        show l ++ (e.1 ++ e2.1 ++ [(38, 0, 0)]) = l ++ e.1 ++ e2.1 ++ [(38, 0, 0)]
        rw [← List.append_assoc, ← List.append_assoc]
      · skip
        refine x_istore_n (pc := 32) (lv' := [(0, .ref rd), (1, .int (nI wi)), (2, .int 0), (3, .int (nI i))]) dX3_readBoth_32 rfl (by decide) rfl ?_
        refine x_aload_n (pc := 33) dX3_readBoth_33 rfl rfl ?_
        refine x_getr (pc := 34) dX3_readBoth_34 kf_RX3_23 hG.g_rd rfl hG.g_rd1 ?_
        refine x_bipush (pc := 37) (v := 38) dX3_readBoth_37 (by decide) ?_
        refine x_iconst (pc := 39) (v := 0) dX3_readBoth_39 (by decide) ?_
        refine x_iconst (pc := 40) (v := 0) dX3_readBoth_40 (by decide) ?_
        refine x_callV (pc := 41) (As := [.int _, .int _, .int _]) dX3_readBoth_41 km_X4_add kv_X4_add kl_RX3_69 hG.g_draft.1 rfl rfl (by decide) ⟨Nat.le_refl _, Nat.le_refl _⟩ rfl (Nat.le_of_ble_eq_true rfl) (Nat.le_of_ble_eq_true rfl) (c_rgAdd (p := 38) (s := 0) (k := 0) hG.g_draft h2.2.2.2.choose_spec (fun J3 d3 f3 => ⟨rfl, rfl, ?_⟩))
        refine x_iinc (pc := 44) (v := nI (i + 1)) (lv' := [(0, .ref rd), (1, .int (nI wi)), (2, .int 0), (3, .int (nI (i + 1)))]) dX3_readBoth_44 rfl (nI_1 _) (by decide) rfl ?_
        refine x_goto (pc := 47) (tgt := 8) dX3_readBoth_47 (by decide) ?_
        exact l_rB3z hG hx (p := p) (l := l) (t := t) (wi := wi) (i := i + 1) (by omega) (K0 J3 q2 (hct _ (PD.Lbad hc h1)) (h2.ad f3 d3) (((fj.tr rdP.nx).tr f2).tr (rdP.rg f3)))
    · skip
      refine x_if_eq_t (pc := 24) (tgt := 50) dX3_readBoth_24 (by decide) (by decide) ?_
      refine x_iload_n (pc := 50) dX3_readBoth_50 rfl rfl ?_
      refine x_ireturn (pc := 51) dX3_readBoth_51 ⟨_, rfl, by decide⟩ ⟨Nat.le_refl _, Nat.le_refl _⟩ ?_
      have hn : nxX t q ≠ 38 := hc
      exact K1 J q e (hct _ (PD.Lend hn)) hn hs fj

set_option maxHeartbeats 4000000 in
set_option maxRecDepth 100000 in
theorem c_readBoth3 {T : xT} {n : Nat} {sh : Nat → Nat × Nat} {I : xI} {R : xR} {L : xL} {P : xPost} {lr nw im tr rd hu se ac M : Nat} (hG : GEO sh R lr nw im tr rd hu se ac M) {t : xX} (hx : XOK t) {p wi : Nat} {l : List (Nat × Nat × Nat)} (hs : RDS I rd t p l) (hk : 3 ≤ wi) (hw4 : wi ≤ 4) (K1 : ∀ (J : xI) (q : Nat) (e : xCE), PD (nxX t) 1 wi p none (q, some e) → nxX t q ≠ 38 → RDS J rd t q (l ++ e.1) → rdP rd I J → P (n, sh, 0, 0) J R L (some (.int 1))) (K0 : ∀ (J : xI) (q : Nat), PD (nxX t) 1 wi p none (q, none) → RDX J rd t q → rdP rd I J → P (n, sh, 0, 0) J R L (some (.int 0)))  : XM T zX3_readBoth 6 [.ref rd, .int (nI wi)] n sh I R L P := by
  refine x_aload_n (pc := 0) dX3_readBoth_0 rfl rfl ?_
  refine x_iload_n (pc := 1) dX3_readBoth_1 rfl rfl ?_
  refine x_callV (pc := 2) (As := [.int _]) dX3_readBoth_2 km_X3_readOne kv_X3_readOne kl_RX3_76 hG.g_rd rfl rfl (by decide) ⟨Nat.le_refl _, Nat.le_refl _⟩ rfl (Nat.le_of_ble_eq_true rfl) (Nat.le_of_ble_eq_true rfl) (c_readOne3 hG hx hs hk hw4 (fun J q e h1 h2 f2 => ⟨rfl, rfl, ?_⟩) (fun J q h1 h2 f2 => ⟨rfl, rfl, ?_⟩))
  · skip
    refine x_istore_n (pc := 5) (lv' := [(0, .ref rd), (1, .int (nI wi)), (2, .int 1)]) dX3_readBoth_5 rfl (by decide) rfl ?_
    refine x_iconst (pc := 6) (v := 0) dX3_readBoth_6 (by decide) ?_
    refine x_istore_n (pc := 7) (lv' := [(0, .ref rd), (1, .int (nI wi)), (2, .int 1), (3, .int 0)]) dX3_readBoth_7 rfl (by decide) rfl ?_
    exact l_rB3 hG hx hk hw4 K1 K0 100 0 (by omega) J q e h2 (by omega) (fun r hr => PD.Tgo h1 hr) f2
  · skip
    refine x_istore_n (pc := 5) (lv' := [(0, .ref rd), (1, .int (nI wi)), (2, .int 0)]) dX3_readBoth_5 rfl (by decide) rfl ?_
    refine x_iconst (pc := 6) (v := 0) dX3_readBoth_6 (by decide) ?_
    refine x_istore_n (pc := 7) (lv' := [(0, .ref rd), (1, .int (nI wi)), (2, .int 0), (3, .int 0)]) dX3_readBoth_7 rfl (by decide) rfl ?_
    exact l_rB3z hG hx (p := p) (l := l) (t := t) (wi := wi) (i := 0) (by omega) (K0 J q (PD.Tbad h1) h2 f2)

set_option maxHeartbeats 4000000 in
set_option maxRecDepth 100000 in
theorem l_rE3z {T : xT} {n : Nat} {sh : Nat → Nat × Nat} {I : xI} {R : xR} {L : xL} {P : xPost} {lr nw im tr rd hu se ac M : Nat} (hG : GEO sh R lr nw im tr rd hu se ac M) {t : xX} (hx : XOK t) {p wi : Nat} {l : List (Nat × Nat × Nat)} {i : Nat} (hi : i ≤ 100) (K : P (n, sh, 0, 0) I R L (some (.int 0)))  :  X T zX3_readEither 7 0 0 P 8 [(0, .ref rd), (1, .int (nI wi)), (2, .int 0), (3, .int (nI i))] [] (n, sh, 0, 0) (I) R L := by
  refine x_iload_n (pc := 8) dX3_readEither_8 rfl rfl ?_
  refine x_bipush (pc := 9) (v := 100) dX3_readEither_9 (by decide) ?_
  refine x_icmpn_ge (pc := 11) (tgt := 50) (a := i) (b := 100) dX3_readEither_11 (by decide) (by omega) (by decide) (fun c11 => ?_) (fun c11 => ?_)
  · skip
    refine x_iload_n (pc := 50) dX3_readEither_50 rfl rfl ?_
    refine x_ireturn (pc := 51) dX3_readEither_51 ⟨_, rfl, by decide⟩ ⟨Nat.le_refl _, Nat.le_refl _⟩ ?_
    exact K
  · skip
    refine x_iload_n (pc := 14) dX3_readEither_14 rfl rfl ?_
    refine x_if_eq_t (pc := 15) (tgt := 50) dX3_readEither_15 (by decide) (by decide) ?_
    refine x_iload_n (pc := 50) dX3_readEither_50 rfl rfl ?_
    refine x_ireturn (pc := 51) dX3_readEither_51 ⟨_, rfl, by decide⟩ ⟨Nat.le_refl _, Nat.le_refl _⟩ ?_
    exact K

set_option maxHeartbeats 4000000 in
set_option maxRecDepth 100000 in
theorem l_rE3 {T : xT} {n : Nat} {sh : Nat → Nat × Nat} {I : xI} {R : xR} {L : xL} {P : xPost} {lr nw im tr rd hu se ac M : Nat} (hG : GEO sh R lr nw im tr rd hu se ac M) {t : xX} (hx : XOK t) {p wi : Nat} {l : List (Nat × Nat × Nat)} (hk : 3 ≤ wi) (hw4 : wi ≤ 4) (K1 : ∀ (J : xI) (q : Nat) (e : xCE), PD (nxX t) 3 wi p none (q, some e) → RDS J rd t q (l ++ e.1) → rdP rd I J → P (n, sh, 0, 0) J R L (some (.int 1))) (K0 : ∀ (J : xI) (q : Nat), PD (nxX t) 3 wi p none (q, none) → RDX J rd t q → rdP rd I J → P (n, sh, 0, 0) J R L (some (.int 0)))  : ∀ (w i : Nat), i + w = 100 → ∀ (J : xI) (q : Nat) (e : xCE), nxX t q ≠ 38 → RDS J rd t q (l ++ e.1) → i ≤ q → (∀ r, PD (nxX t) 4 wi q (some e) r → PD (nxX t) 3 wi p none r) → rdP rd I J → X T zX3_readEither 7 0 0 P 8 [(0, .ref rd), (1, .int (nI wi)), (2, .int 1), (3, .int (nI i))] [] (n, sh, 0, 0) (J) R L := by
  have x100 := hx.1
  intro w
  induction w with
  | zero =>
    intro i hw J q e hn8 hs hiq hct fj
    have hz : i = 100 := by omega
    refine x_iload_n (pc := 8) dX3_readEither_8 rfl rfl ?_
    refine x_bipush (pc := 9) (v := 100) dX3_readEither_9 (by decide) ?_
    refine x_icmpn_ge_t (pc := 11) (tgt := 50) (a := i) (b := 100) dX3_readEither_11 (by decide) (by omega) (by decide) (by omega) ?_
    refine x_iload_n (pc := 50) dX3_readEither_50 rfl rfl ?_
    refine x_ireturn (pc := 51) dX3_readEither_51 ⟨_, rfl, by decide⟩ ⟨Nat.le_refl _, Nat.le_refl _⟩ ?_
    have hn : nxX t q ≠ 124 := by
      show (if q < t.1 then t.2 q else 256) ≠ 124
      rw [if_neg (by omega)]
      decide
    exact K1 J q e (hct _ (PD.Mend hn8 hn)) hs fj
  | succ w ih =>
    intro i hw J q e hn8 hs hiq hct fj
    have hi : i < 100 := by omega
    refine x_iload_n (pc := 8) dX3_readEither_8 rfl rfl ?_
    refine x_bipush (pc := 9) (v := 100) dX3_readEither_9 (by decide) ?_
    refine x_icmpn_ge_f (pc := 11) (tgt := 50) (a := i) (b := 100) dX3_readEither_11 (by decide) (by omega) (by decide) (by omega) ?_
    refine x_iload_n (pc := 14) dX3_readEither_14 rfl rfl ?_
    refine x_if_eq_f (pc := 15) (tgt := 50) dX3_readEither_15 (by decide) (by decide) ?_
    refine x_aload_n (pc := 18) dX3_readEither_18 rfl rfl ?_
    refine x_bipush (pc := 19) (v := 124) dX3_readEither_19 (by decide) ?_
    refine x_callV (pc := 21) (As := [.int _]) dX3_readEither_21 km_X3_accept kv_X3_accept kl_RX3_34 hG.g_rd rfl rfl (by decide) ⟨Nat.le_refl _, Nat.le_refl _⟩ rfl (Nat.le_of_ble_eq_true rfl) (Nat.le_of_ble_eq_true rfl) (c_accept (c := 124) hG hs.1 hx hs.2.1 hs.2.2.1 (by decide) (fun hc hlt => ⟨rfl, rfl, ?_⟩) (fun hc => ⟨rfl, rfl, ?_⟩))
    · skip
      refine x_if_eq_f (pc := 24) (tgt := 50) dX3_readEither_24 (by decide) (by decide) ?_
      refine x_aload_n (pc := 27) dX3_readEither_27 rfl rfl ?_
      refine x_iload_n (pc := 28) dX3_readEither_28 rfl rfl ?_
      refine x_callV (pc := 29) (As := [.int _]) dX3_readEither_29 km_X3_readBoth kv_X3_readBoth kl_RX3_73 hG.g_rd rfl rfl (by decide) ⟨Nat.le_refl _, Nat.le_refl _⟩ rfl (Nat.le_of_ble_eq_true rfl) (Nat.le_of_ble_eq_true rfl) (c_readBoth3 hG hx (hs.nx hlt) hk hw4 (fun J2 q2 e2 h1 hn2 h2 f2 => ⟨rfl, rfl, ?_⟩) (fun J2 q2 h1 h2 f2 => ⟨rfl, rfl, ?_⟩))
      · skip
        refine x_istore_n (pc := 32) (lv' := [(0, .ref rd), (1, .int (nI wi)), (2, .int 1), (3, .int (nI i))]) dX3_readEither_32 rfl (by decide) rfl ?_
        refine x_aload_n (pc := 33) dX3_readEither_33 rfl rfl ?_
        refine x_getr (pc := 34) dX3_readEither_34 kf_RX3_23 hG.g_rd rfl hG.g_rd1 ?_
        refine x_bipush (pc := 37) (v := 124) dX3_readEither_37 (by decide) ?_
        refine x_iconst (pc := 39) (v := 0) dX3_readEither_39 (by decide) ?_
        refine x_iconst (pc := 40) (v := 0) dX3_readEither_40 (by decide) ?_
        refine x_callV (pc := 41) (As := [.int _, .int _, .int _]) dX3_readEither_41 km_X4_add kv_X4_add kl_RX3_69 hG.g_draft.1 rfl rfl (by decide) ⟨Nat.le_refl _, Nat.le_refl _⟩ rfl (Nat.le_of_ble_eq_true rfl) (Nat.le_of_ble_eq_true rfl) (c_rgAdd (p := 124) (s := 0) (k := 0) hG.g_draft h2.2.2.2.1 (fun J3 d3 f3 => ⟨rfl, rfl, ?_⟩))
        refine x_iinc (pc := 44) (v := nI (i + 1)) (lv' := [(0, .ref rd), (1, .int (nI wi)), (2, .int 1), (3, .int (nI (i + 1)))]) dX3_readEither_44 rfl (nI_1 _) (by decide) rfl ?_
        refine x_goto (pc := 47) (tgt := 8) dX3_readEither_47 (by decide) ?_
        have g3 : q + 1 + e2.1.length ≤ q2 := (pd_gd h1 e2 rfl).2.2.1
        have hll := hs.2.2.2.2
        refine ih (i + 1) (by omega) J3 q2 (eO e e2) hn2 (h2.ad hx f3 d3 (by rw [List.length_append]; omega) ?_) (by omega) (fun r hr => hct r (PD.Mgo hc h1 hr)) (((fj.tr rdP.nx).tr f2).tr (rdP.rg f3))
        show l ++ (e.1 ++ e2.1 ++ [(124, 0, 0)]) = l ++ e.1 ++ e2.1 ++ [(124, 0, 0)]
        rw [← List.append_assoc, ← List.append_assoc]
      · skip
        refine x_istore_n (pc := 32) (lv' := [(0, .ref rd), (1, .int (nI wi)), (2, .int 0), (3, .int (nI i))]) dX3_readEither_32 rfl (by decide) rfl ?_
        refine x_aload_n (pc := 33) dX3_readEither_33 rfl rfl ?_
        refine x_getr (pc := 34) dX3_readEither_34 kf_RX3_23 hG.g_rd rfl hG.g_rd1 ?_
        refine x_bipush (pc := 37) (v := 124) dX3_readEither_37 (by decide) ?_
        refine x_iconst (pc := 39) (v := 0) dX3_readEither_39 (by decide) ?_
        refine x_iconst (pc := 40) (v := 0) dX3_readEither_40 (by decide) ?_
        refine x_callV (pc := 41) (As := [.int _, .int _, .int _]) dX3_readEither_41 km_X4_add kv_X4_add kl_RX3_69 hG.g_draft.1 rfl rfl (by decide) ⟨Nat.le_refl _, Nat.le_refl _⟩ rfl (Nat.le_of_ble_eq_true rfl) (Nat.le_of_ble_eq_true rfl) (c_rgAdd (p := 124) (s := 0) (k := 0) hG.g_draft h2.2.2.2.choose_spec (fun J3 d3 f3 => ⟨rfl, rfl, ?_⟩))
        refine x_iinc (pc := 44) (v := nI (i + 1)) (lv' := [(0, .ref rd), (1, .int (nI wi)), (2, .int 0), (3, .int (nI (i + 1)))]) dX3_readEither_44 rfl (nI_1 _) (by decide) rfl ?_
        refine x_goto (pc := 47) (tgt := 8) dX3_readEither_47 (by decide) ?_
        exact l_rE3z hG hx (p := p) (l := l) (t := t) (wi := wi) (i := i + 1) (by omega) (K0 J3 q2 (hct _ (PD.Mbad hc h1)) (h2.ad f3 d3) (((fj.tr rdP.nx).tr f2).tr (rdP.rg f3)))
    · skip
      refine x_if_eq_t (pc := 24) (tgt := 50) dX3_readEither_24 (by decide) (by decide) ?_
      refine x_iload_n (pc := 50) dX3_readEither_50 rfl rfl ?_
      refine x_ireturn (pc := 51) dX3_readEither_51 ⟨_, rfl, by decide⟩ ⟨Nat.le_refl _, Nat.le_refl _⟩ ?_
      have hn : nxX t q ≠ 124 := hc
      exact K1 J q e (hct _ (PD.Mend hn8 hn)) hs fj

set_option maxHeartbeats 4000000 in
set_option maxRecDepth 100000 in
theorem c_readEither3 {T : xT} {n : Nat} {sh : Nat → Nat × Nat} {I : xI} {R : xR} {L : xL} {P : xPost} {lr nw im tr rd hu se ac M : Nat} (hG : GEO sh R lr nw im tr rd hu se ac M) {t : xX} (hx : XOK t) {p wi : Nat} {l : List (Nat × Nat × Nat)} (hs : RDS I rd t p l) (hk : 3 ≤ wi) (hw4 : wi ≤ 4) (K1 : ∀ (J : xI) (q : Nat) (e : xCE), PD (nxX t) 3 wi p none (q, some e) → RDS J rd t q (l ++ e.1) → rdP rd I J → P (n, sh, 0, 0) J R L (some (.int 1))) (K0 : ∀ (J : xI) (q : Nat), PD (nxX t) 3 wi p none (q, none) → RDX J rd t q → rdP rd I J → P (n, sh, 0, 0) J R L (some (.int 0)))  : XM T zX3_readEither 7 [.ref rd, .int (nI wi)] n sh I R L P := by
  refine x_aload_n (pc := 0) dX3_readEither_0 rfl rfl ?_
  refine x_iload_n (pc := 1) dX3_readEither_1 rfl rfl ?_
  refine x_callV (pc := 2) (As := [.int _]) dX3_readEither_2 km_X3_readBoth kv_X3_readBoth kl_RX3_73 hG.g_rd rfl rfl (by decide) ⟨Nat.le_refl _, Nat.le_refl _⟩ rfl (Nat.le_of_ble_eq_true rfl) (Nat.le_of_ble_eq_true rfl) (c_readBoth3 hG hx hs hk hw4 (fun J q e h1 hn2 h2 f2 => ⟨rfl, rfl, ?_⟩) (fun J q h1 h2 f2 => ⟨rfl, rfl, ?_⟩))
  · skip
    refine x_istore_n (pc := 5) (lv' := [(0, .ref rd), (1, .int (nI wi)), (2, .int 1)]) dX3_readEither_5 rfl (by decide) rfl ?_
    refine x_iconst (pc := 6) (v := 0) dX3_readEither_6 (by decide) ?_
    refine x_istore_n (pc := 7) (lv' := [(0, .ref rd), (1, .int (nI wi)), (2, .int 1), (3, .int 0)]) dX3_readEither_7 rfl (by decide) rfl ?_
    exact l_rE3 hG hx hk hw4 K1 K0 100 0 (by omega) J q e hn2 h2 (by omega) (fun r hr => PD.Ego h1 hr) f2
  · skip
    refine x_istore_n (pc := 5) (lv' := [(0, .ref rd), (1, .int (nI wi)), (2, .int 0)]) dX3_readEither_5 rfl (by decide) rfl ?_
    refine x_iconst (pc := 6) (v := 0) dX3_readEither_6 (by decide) ?_
    refine x_istore_n (pc := 7) (lv' := [(0, .ref rd), (1, .int (nI wi)), (2, .int 0), (3, .int 0)]) dX3_readEither_7 rfl (by decide) rfl ?_
    exact l_rE3z hG hx (p := p) (l := l) (t := t) (wi := wi) (i := 0) (by omega) (K0 J q (PD.Ebad h1) h2 f2)

set_option maxHeartbeats 4000000 in
set_option maxRecDepth 100000 in
theorem l_rO2 {T : xT} {n : Nat} {sh : Nat → Nat × Nat} {I : xI} {R : xR} {L : xL} {P : xPost} {lr nw im tr rd hu se ac M : Nat} (hG : GEO sh R lr nw im tr rd hu se ac M) {t : xX} (hx : XOK t) {p wi : Nat} {l : List (Nat × Nat × Nat)} (hw4 : wi ≤ 4) (K : ∀ (J : xI) (j : Nat), BGs (nxX t) wi p j → RDS J rd t (p + j) l → rdP rd I J → X T zX3_readOne 8 0 0 P 22 [(0, .ref rd), (1, .int (nI wi)), (2, .int (nI (wi + j)))] [] (n, sh, 0, 0) J R L)  : ∀ (w i : Nat), i + w = 4 - wi → ∀ (J : xI), RDS J rd t (p + i) l → (∀ k, k < i → nxX t (p + k) = 33) → rdP rd I J → X T zX3_readOne 8 0 0 P 2 [(0, .ref rd), (1, .int (nI wi)), (2, .int (nI (wi + i)))] [] (n, sh, 0, 0) (J) R L := by
  intro w
  induction w with
  | zero =>
    intro i hw J hs hb fj
    have hz : i = 4 - wi := by omega
    refine x_iload_n (pc := 2) dX3_readOne_2 rfl rfl ?_
    refine x_iconst (pc := 3) (v := 4) dX3_readOne_3 (by decide) ?_
    refine x_icmpn_ge_t (pc := 4) (tgt := 22) (a := (wi + i)) (b := 4) dX3_readOne_4 (by decide) (by omega) (by decide) (by omega) ?_
    exact X.keep [0, 1, 2] rfl (K J i ⟨by omega, hb, Or.inl (by omega)⟩ hs fj)
  | succ w ih =>
    intro i hw J hs hb fj
    have hi : i < 4 - wi := by omega
    refine x_iload_n (pc := 2) dX3_readOne_2 rfl rfl ?_
    refine x_iconst (pc := 3) (v := 4) dX3_readOne_3 (by decide) ?_
    refine x_icmpn_ge_f (pc := 4) (tgt := 22) (a := (wi + i)) (b := 4) dX3_readOne_4 (by decide) (by omega) (by decide) (by omega) ?_
    refine x_aload_n (pc := 7) dX3_readOne_7 rfl rfl ?_
    refine x_bipush (pc := 8) (v := 33) dX3_readOne_8 (by decide) ?_
    refine x_callV (pc := 10) (As := [.int _]) dX3_readOne_10 km_X3_accept kv_X3_accept kl_RX3_34 hG.g_rd rfl rfl (by decide) ⟨Nat.le_refl _, Nat.le_refl _⟩ rfl (Nat.le_of_ble_eq_true rfl) (Nat.le_of_ble_eq_true rfl) (c_accept (c := 33) hG hs.1 hx hs.2.1 hs.2.2.1 (by decide) (fun hc hlt => ⟨rfl, rfl, ?_⟩) (fun hc => ⟨rfl, rfl, ?_⟩))
    · skip
      refine x_if_eq_f (pc := 13) (tgt := 22) dX3_readOne_13 (by decide) (by decide) ?_
      refine x_iinc (pc := 16) (v := nI (wi + i + 1)) (lv' := [(0, .ref rd), (1, .int (nI wi)), (2, .int (nI (wi + i + 1)))]) dX3_readOne_16 rfl (nI_1 _) (by decide) rfl ?_
      refine x_goto (pc := 19) (tgt := 2) dX3_readOne_19 (by decide) ?_
      refine ih (i + 1) (by omega) _ (hs.nx hlt) (fun k hk => ?_) (fj.tr rdP.nx)
      rcases Nat.lt_succ_iff_lt_or_eq.mp hk with z | z
      · exact hb k z
      · rw [z]; exact hc
    · skip
      refine x_if_eq_t (pc := 13) (tgt := 22) dX3_readOne_13 (by decide) (by decide) ?_
      exact X.keep [0, 1, 2] rfl (K J i ⟨by omega, hb, Or.inr hc⟩ hs fj)

set_option maxHeartbeats 4000000 in
set_option maxRecDepth 100000 in
theorem l_rO2e {T : xT} {n : Nat} {sh : Nat → Nat × Nat} {I : xI} {R : xR} {L : xL} {P : xPost} {lr nw im tr rd hu se ac M : Nat} (hG : GEO sh R lr nw im tr rd hu se ac M) {t : xX} (hx : XOK t) {p wi : Nat} {l : List (Nat × Nat × Nat)} {j q : Nat} {e : xCE} (hs : RDS I rd t q (l ++ e.1)) (hw4 : wi + j ≤ 4) (hl : l.length + e.1.length + j ≤ q) (K : ∀ J : xI, RDS J rd t q (l ++ (eN j e).1) → rdP rd I J → P (n, sh, 0, 0) J R L (some (.int 1)))  :  X T zX3_readOne 8 0 0 P 183 [(0, .ref rd), (1, .int (nI wi)), (2, .int (nI (wi + j)))] [] (n, sh, 0, 0) (I) R L := by
  refine x_iload_n (pc := 183) dX3_readOne_183 rfl rfl ?_
  refine x_iload_n (pc := 184) dX3_readOne_184 rfl rfl ?_
  refine x_isub (pc := 185) dX3_readOne_185 ?_
  rw [show nI (wi + j) - nI wi = nI j from by rw [pk_sub (by omega), Nat.add_sub_cancel_left]]
  refine x_iconst (pc := 186) (v := 2) dX3_readOne_186 (by decide) ?_
  refine x_iremn (pc := 187) (a := j) (b := 2) dX3_readOne_187 (by omega) (by decide) (by decide) ?_
  refine x_ifn_eq (pc := 188) (tgt := 202) (a := (j % 2)) dX3_readOne_188 (by decide) (by omega) (fun c188 => ?_) (fun c188 => ?_)
  · skip
    refine x_iconst (pc := 202) (v := 1) dX3_readOne_202 (by decide) ?_
    refine x_ireturn (pc := 203) dX3_readOne_203 ⟨_, rfl, by decide⟩ ⟨Nat.le_refl _, Nat.le_refl _⟩ ?_
    first
    | exact K J (hs.ad hx fJ dJ (by rw [List.length_append]; omega) (by show l ++ (e.1 ++ (if j % 2 = 1 then [(33, 0, 0)] else [])) = _; rw [if_pos (by omega), List.append_assoc])) (rdP.rg fJ)
    | exact K I (by rw [show l ++ (eN j e).1 = l ++ e.1 from by show l ++ (e.1 ++ (if j % 2 = 1 then [(33, 0, 0)] else [])) = _; rw [if_neg (by omega), List.append_nil]]; exact hs) rdP.rf
  · skip
    refine x_aload_n (pc := 191) dX3_readOne_191 rfl rfl ?_
    refine x_getr (pc := 192) dX3_readOne_192 kf_RX3_23 hG.g_rd rfl hG.g_rd1 ?_
    refine x_bipush (pc := 195) (v := 33) dX3_readOne_195 (by decide) ?_
    refine x_iconst (pc := 197) (v := 0) dX3_readOne_197 (by decide) ?_
    refine x_iconst (pc := 198) (v := 0) dX3_readOne_198 (by decide) ?_
    refine x_callV (pc := 199) (As := [.int _, .int _, .int _]) dX3_readOne_199 km_X4_add kv_X4_add kl_RX3_69 hG.g_draft.1 rfl rfl (by decide) ⟨Nat.le_refl _, Nat.le_refl _⟩ rfl (Nat.le_of_ble_eq_true rfl) (Nat.le_of_ble_eq_true rfl) (c_rgAdd (p := 33) (s := 0) (k := 0) hG.g_draft hs.2.2.2.1 (fun J dJ fJ => ⟨rfl, rfl, ?_⟩))
    refine x_iconst (pc := 202) (v := 1) dX3_readOne_202 (by decide) ?_
    refine x_ireturn (pc := 203) dX3_readOne_203 ⟨_, rfl, by decide⟩ ⟨Nat.le_refl _, Nat.le_refl _⟩ ?_
    first
    | exact K J (hs.ad hx fJ dJ (by rw [List.length_append]; omega) (by show l ++ (e.1 ++ (if j % 2 = 1 then [(33, 0, 0)] else [])) = _; rw [if_pos (by omega), List.append_assoc])) (rdP.rg fJ)
    | exact K I (by rw [show l ++ (eN j e).1 = l ++ e.1 from by show l ++ (e.1 ++ (if j % 2 = 1 then [(33, 0, 0)] else [])) = _; rw [if_neg (by omega), List.append_nil]]; exact hs) rdP.rf

set_option maxHeartbeats 4000000 in
set_option maxRecDepth 100000 in
theorem l_rO2c {T : xT} {n : Nat} {sh : Nat → Nat × Nat} {I : xI} {R : xR} {L : xL} {P : xPost} {lr nw im tr rd hu se ac M : Nat} (hG : GEO sh R lr nw im tr rd hu se ac M) {t : xX} (hx : XOK t) {p wi : Nat} {l : List (Nat × Nat × Nat)} {j : Nat} (hb : BGs (nxX t) wi p j) (h4 : wi + j = 4 ∨ nxX t (p + j) ≠ 40) (hlt : isLt (nxX t (p + j))) (hsg : isSg (nxX t (p + j + 1))) (hs : RDS I rd t (p + j + 1) l) (hl : l.length ≤ p) (K1 : ∀ (J : xI) (q : Nat) (e : xCE), PD (nxX t) 0 wi p none (q, some e) → RDS J rd t q (l ++ e.1) → rdP rd I J → P (n, sh, 0, 0) J R L (some (.int 1))) (K0 : ∀ (J : xI) (q : Nat), PD (nxX t) 0 wi p none (q, none) → RDX J rd t q → rdP rd I J → P (n, sh, 0, 0) J R L (some (.int 0)))  :  X T zX3_readOne 8 0 0 P 147 [(0, .ref rd), (1, .int (nI wi)), (2, .int (nI (wi + j))), (3, .int (nI (nxX t (p + j)))), (4, .int (nI (nxX t (p + j + 1))))] [] (n, sh, 0, 0) (I) R L := by
  have x100 := hx.1
  have l1 : p + j + 1 < t.1 := by
    have : 60 ≤ nxX t (p + j + 1) ∧ nxX t (p + j + 1) ≤ 62 := hsg
    exact nxX_lt rfl (by omega)
  have hs2 := hs.nx l1
  refine x_aload_n (pc := 147) dX3_readOne_147 rfl rfl ?_
  refine x_dup (pc := 148) dX3_readOne_148 rfl ?_
  refine x_get (pc := 149) dX3_readOne_149 kf_RX3_27 hG.g_rd rfl ?_
  rw [hs.2.1]
  refine x_iconst (pc := 152) (v := 1) dX3_readOne_152 (by decide) ?_
  refine x_iaddn (pc := 153) (a := (p + j + 1)) (b := 1) dX3_readOne_153 ?_
  refine x_put (pc := 154) dX3_readOne_154 kf_RX3_27 hG.g_rd rfl (Or.inl kb_3_2) ?_
  refine x_aload_n (pc := 157) dX3_readOne_157 rfl rfl ?_
  refine x_callV (pc := 158) (As := []) dX3_readOne_158 km_X3_readNumber kv_X3_readNumber kl_RX3_59 hG.g_rd rfl rfl (by decide) ⟨Nat.le_refl _, Nat.le_refl _⟩ rfl (Nat.le_of_ble_eq_true rfl) (Nat.le_of_ble_eq_true rfl) (c_readNumber (p := p + j + 2) hG hs2.1 hx hs2.2.1 hs2.2.2.1 (fun q k hn hq J eJ fJ => ⟨rfl, rfl, ?_⟩) (fun hn => ⟨rfl, rfl, ?_⟩))
  · skip
    have hk := (numF_p hn).2
    have hq1 := (numF_p hn).1
    have hs3 := hs2.go fJ eJ hq (show p + j + 1 + 1 ≤ q by have : p + j + 2 + 1 ≤ q := hq1; omega)
    refine x_istore (pc := 161) (lv' := [(0, .ref rd), (1, .int (nI wi)), (2, .int (nI (wi + j))), (3, .int (nI (nxX t (p + j)))), (4, .int (nI (nxX t (p + j + 1)))), (5, .int (nI k))]) dX3_readOne_161 (by decide) rfl ?_
    refine x_iload (pc := 163) dX3_readOne_163 rfl ?_
    refine x_iconst (pc := 165) (v := -1) dX3_readOne_165 (by decide) ?_
    refine x_icmp_ne_t (pc := 166) (tgt := 171) dX3_readOne_166 (by decide) (nI_nem (by omega)) ?_
    refine x_aload_n (pc := 171) dX3_readOne_171 rfl rfl ?_
    refine x_getr (pc := 172) dX3_readOne_172 kf_RX3_23 hG.g_rd rfl hG.g_rd1 ?_
    refine x_iload_n (pc := 175) dX3_readOne_175 rfl rfl ?_
    refine x_iload (pc := 176) dX3_readOne_176 rfl ?_
    refine x_iload (pc := 178) dX3_readOne_178 rfl ?_
    refine x_callV (pc := 180) (As := [.int _, .int _, .int _]) dX3_readOne_180 km_X4_add kv_X4_add kl_RX3_69 hG.g_draft.1 rfl rfl (by decide) ⟨Nat.le_refl _, Nat.le_refl _⟩ rfl (Nat.le_of_ble_eq_true rfl) (Nat.le_of_ble_eq_true rfl) (c_rgAdd (p := nxX t (p + j)) (s := nxX t (p + j + 1)) (k := k) hG.g_draft hs3.2.2.2.1 (fun J2 dJ f2 => ⟨rfl, rfl, ?_⟩))
    have hq1 : p + j + 2 + 1 ≤ q := hq1
    exact X.keep [0, 1, 2] rfl (l_rO2e (p := p) (e := eT (nxX t (p + j)) (nxX t (p + j + 1)) k) (l := l) (j := j) hG hx (hs3.ad hx f2 dJ (by omega) rfl) hb.1 (by show l.length + 1 + j ≤ q; omega) (fun J3 hs4 f3 => K1 J3 q _ (PD.tok hb h4 (tstF_3 hlt hsg hn)) hs4 (((rdP.nx.tr (rdP.ne fJ)).tr (rdP.rg f2)).tr f3)))
  · skip
    refine x_istore (pc := 161) (lv' := [(0, .ref rd), (1, .int (nI wi)), (2, .int (nI (wi + j))), (3, .int (nI (nxX t (p + j)))), (4, .int (nI (nxX t (p + j + 1)))), (5, .int (-1))]) dX3_readOne_161 (by decide) rfl ?_
    refine x_iload (pc := 163) dX3_readOne_163 rfl ?_
    refine x_iconst (pc := 165) (v := -1) dX3_readOne_165 (by decide) ?_
    refine x_icmp_ne_f (pc := 166) (tgt := 171) dX3_readOne_166 (by decide) (by decide) ?_
    refine x_iconst (pc := 169) (v := 0) dX3_readOne_169 (by decide) ?_
    refine x_ireturn (pc := 170) dX3_readOne_170 ⟨_, rfl, by decide⟩ ⟨Nat.le_refl _, Nat.le_refl _⟩ ?_
    exact K0 _ _ (PD.tbad hb h4 (tstF_2 hlt hsg hn)) hs2.x rdP.nx

set_option maxHeartbeats 4000000 in
set_option maxRecDepth 100000 in
theorem l_rO2b {T : xT} {n : Nat} {sh : Nat → Nat × Nat} {I : xI} {R : xR} {L : xL} {P : xPost} {lr nw im tr rd hu se ac M : Nat} (hG : GEO sh R lr nw im tr rd hu se ac M) {t : xX} (hx : XOK t) {p wi : Nat} {l : List (Nat × Nat × Nat)} {j : Nat} (hb : BGs (nxX t) wi p j) (h4 : wi + j = 4 ∨ nxX t (p + j) ≠ 40) (hlt : isLt (nxX t (p + j))) (hs : RDS I rd t (p + j) l) (hl : l.length ≤ p) (K1 : ∀ (J : xI) (q : Nat) (e : xCE), PD (nxX t) 0 wi p none (q, some e) → RDS J rd t q (l ++ e.1) → rdP rd I J → P (n, sh, 0, 0) J R L (some (.int 1))) (K0 : ∀ (J : xI) (q : Nat), PD (nxX t) 0 wi p none (q, none) → RDX J rd t q → rdP rd I J → P (n, sh, 0, 0) J R L (some (.int 0)))  :  X T zX3_readOne 8 0 0 P 101 [(0, .ref rd), (1, .int (nI wi)), (2, .int (nI (wi + j))), (3, .int (nI (nxX t (p + j))))] [] (n, sh, 0, 0) (I) R L := by
  have x100 := hx.1
  have l1 : p + j < t.1 := nxX_lt rfl (by rcases hlt with z | z | z | z | z <;> rw [z] <;> decide)
  have hs2 := hs.nx l1
  refine x_aload_n (pc := 101) dX3_readOne_101 rfl rfl ?_
  refine x_dup (pc := 102) dX3_readOne_102 rfl ?_
  refine x_get (pc := 103) dX3_readOne_103 kf_RX3_27 hG.g_rd rfl ?_
  rw [hs.2.1]
  refine x_iconst (pc := 106) (v := 1) dX3_readOne_106 (by decide) ?_
  refine x_iaddn (pc := 107) (a := (p + j)) (b := 1) dX3_readOne_107 ?_
  refine x_put (pc := 108) dX3_readOne_108 kf_RX3_27 hG.g_rd rfl (Or.inl kb_3_2) ?_
  refine x_aload_n (pc := 111) dX3_readOne_111 rfl rfl ?_
  refine x_getr (pc := 112) dX3_readOne_112 kf_RX3_14 hG.g_rd rfl hG.g_rd0 ?_
  refine x_aload_n (pc := 115) dX3_readOne_115 rfl rfl ?_
  refine x_get (pc := 116) dX3_readOne_116 kf_RX3_27 hG.g_rd rfl ?_
  refine x_callV (pc := 119) (As := [.int _]) dX3_readOne_119 km_X5_at kv_X5_at kl_RX3_45 hG.g_text.1 rfl rfl (by decide) ⟨Nat.le_refl _, Nat.le_refl _⟩ rfl (Nat.le_of_ble_eq_true rfl) (Nat.le_of_ble_eq_true rfl) (c_at hG.g_text (⟨rfl, rfl, ?_⟩))
  rw [hs2.2.1, nC_at hs2.1 hx (by omega)]
  refine x_istore (pc := 122) (lv' := [(0, .ref rd), (1, .int (nI wi)), (2, .int (nI (wi + j))), (3, .int (nI (nxX t (p + j)))), (4, .int (nC (nxX t (p + j + 1))))]) dX3_readOne_122 (by decide) rfl ?_
  refine x_iload (pc := 124) dX3_readOne_124 rfl ?_
  refine x_bipush (pc := 126) (v := 60) dX3_readOne_126 (by decide) ?_
  refine x_icmp_eq (pc := 128) (tgt := 147) dX3_readOne_128 (by decide) (fun c128 => ?_) (fun c128 => ?_)
  · skip
    have hsg : isSg (nxX t (p + j + 1)) := by
      have z : nxX t (p + j + 1) = 60 ∨ nxX t (p + j + 1) = 61 ∨ nxX t (p + j + 1) = 62 := by
        first
        | exact Or.inl ((nC_eq (by decide)).mp c128)
        | exact Or.inr (Or.inl ((nC_eq (by decide)).mp c135))
        | exact Or.inr (Or.inr ((nC_eq (by decide)).mp c142))
      show 60 ≤ nxX t (p + j + 1) ∧ nxX t (p + j + 1) ≤ 62
      omega
    have h62 : 60 ≤ nxX t (p + j + 1) ∧ nxX t (p + j + 1) ≤ 62 := hsg
    rw [nC_lit (show nxX t (p + j + 1) < 256 by omega)]
    exact X.keep [0, 1, 2, 3, 4] rfl (l_rO2c hG hx hb h4 hlt hsg hs2 hl (fun J q e g1 g2 g3 => K1 J q e g1 g2 (rdP.nx.tr g3)) (fun J q g1 g2 g3 => K0 J q g1 g2 (rdP.nx.tr g3)))
  · skip
    refine x_iload (pc := 131) dX3_readOne_131 rfl ?_
    refine x_bipush (pc := 133) (v := 61) dX3_readOne_133 (by decide) ?_
    refine x_icmp_eq (pc := 135) (tgt := 147) dX3_readOne_135 (by decide) (fun c135 => ?_) (fun c135 => ?_)
    · skip
      have hsg : isSg (nxX t (p + j + 1)) := by
        have z : nxX t (p + j + 1) = 60 ∨ nxX t (p + j + 1) = 61 ∨ nxX t (p + j + 1) = 62 := by
          first
          | exact Or.inl ((nC_eq (by decide)).mp c128)
          | exact Or.inr (Or.inl ((nC_eq (by decide)).mp c135))
          | exact Or.inr (Or.inr ((nC_eq (by decide)).mp c142))
        show 60 ≤ nxX t (p + j + 1) ∧ nxX t (p + j + 1) ≤ 62
        omega
      have h62 : 60 ≤ nxX t (p + j + 1) ∧ nxX t (p + j + 1) ≤ 62 := hsg
      rw [nC_lit (show nxX t (p + j + 1) < 256 by omega)]
      exact X.keep [0, 1, 2, 3, 4] rfl (l_rO2c hG hx hb h4 hlt hsg hs2 hl (fun J q e g1 g2 g3 => K1 J q e g1 g2 (rdP.nx.tr g3)) (fun J q g1 g2 g3 => K0 J q g1 g2 (rdP.nx.tr g3)))
    · skip
      refine x_iload (pc := 138) dX3_readOne_138 rfl ?_
      refine x_bipush (pc := 140) (v := 62) dX3_readOne_140 (by decide) ?_
      refine x_icmp_eq (pc := 142) (tgt := 147) dX3_readOne_142 (by decide) (fun c142 => ?_) (fun c142 => ?_)
      · skip
        have hsg : isSg (nxX t (p + j + 1)) := by
          have z : nxX t (p + j + 1) = 60 ∨ nxX t (p + j + 1) = 61 ∨ nxX t (p + j + 1) = 62 := by
            first
            | exact Or.inl ((nC_eq (by decide)).mp c128)
            | exact Or.inr (Or.inl ((nC_eq (by decide)).mp c135))
            | exact Or.inr (Or.inr ((nC_eq (by decide)).mp c142))
          show 60 ≤ nxX t (p + j + 1) ∧ nxX t (p + j + 1) ≤ 62
          omega
        have h62 : 60 ≤ nxX t (p + j + 1) ∧ nxX t (p + j + 1) ≤ 62 := hsg
        rw [nC_lit (show nxX t (p + j + 1) < 256 by omega)]
        exact X.keep [0, 1, 2, 3, 4] rfl (l_rO2c hG hx hb h4 hlt hsg hs2 hl (fun J q e g1 g2 g3 => K1 J q e g1 g2 (rdP.nx.tr g3)) (fun J q g1 g2 g3 => K0 J q g1 g2 (rdP.nx.tr g3)))
      · skip
        refine x_iconst (pc := 145) (v := 0) dX3_readOne_145 (by decide) ?_
        refine x_ireturn (pc := 146) dX3_readOne_146 ⟨_, rfl, by decide⟩ ⟨Nat.le_refl _, Nat.le_refl _⟩ ?_
        exact K0 _ _ (PD.tbad hb h4 (tstF_1 hlt (fun q => by
          have q : 60 ≤ nxX t (p + j + 1) ∧ nxX t (p + j + 1) ≤ 62 := q
          have z : nxX t (p + j + 1) = 60 ∨ nxX t (p + j + 1) = 61 ∨ nxX t (p + j + 1) = 62 := by omega
          rcases z with z | z | z
          · exact c128 ((nC_eq (by decide)).mpr z)
          · exact c135 ((nC_eq (by decide)).mpr z)
          · exact c142 ((nC_eq (by decide)).mpr z)))) hs2.x rdP.nx

set_option maxHeartbeats 4000000 in
set_option maxRecDepth 100000 in
theorem l_rO2a {T : xT} {n : Nat} {sh : Nat → Nat × Nat} {I : xI} {R : xR} {L : xL} {P : xPost} {lr nw im tr rd hu se ac M : Nat} (hG : GEO sh R lr nw im tr rd hu se ac M) {t : xX} (hx : XOK t) {p wi : Nat} {l : List (Nat × Nat × Nat)} {j : Nat} (hb : BGs (nxX t) wi p j) (h4 : wi + j = 4 ∨ nxX t (p + j) ≠ 40) (hs : RDS I rd t (p + j) l) (hl : l.length ≤ p) (K1 : ∀ (J : xI) (q : Nat) (e : xCE), PD (nxX t) 0 wi p none (q, some e) → RDS J rd t q (l ++ e.1) → rdP rd I J → P (n, sh, 0, 0) J R L (some (.int 1))) (K0 : ∀ (J : xI) (q : Nat), PD (nxX t) 0 wi p none (q, none) → RDX J rd t q → rdP rd I J → P (n, sh, 0, 0) J R L (some (.int 0)))  :  X T zX3_readOne 8 0 0 P 57 [(0, .ref rd), (1, .int (nI wi)), (2, .int (nI (wi + j)))] [] (n, sh, 0, 0) (I) R L := by
  have x100 := hx.1
  refine x_aload_n (pc := 57) dX3_readOne_57 rfl rfl ?_
  refine x_getr (pc := 58) dX3_readOne_58 kf_RX3_14 hG.g_rd rfl hG.g_rd0 ?_
  refine x_aload_n (pc := 61) dX3_readOne_61 rfl rfl ?_
  refine x_get (pc := 62) dX3_readOne_62 kf_RX3_27 hG.g_rd rfl ?_
  refine x_callV (pc := 65) (As := [.int _]) dX3_readOne_65 km_X5_at kv_X5_at kl_RX3_45 hG.g_text.1 rfl rfl (by decide) ⟨Nat.le_refl _, Nat.le_refl _⟩ rfl (Nat.le_of_ble_eq_true rfl) (Nat.le_of_ble_eq_true rfl) (c_at hG.g_text (⟨rfl, rfl, ?_⟩))
  rw [hs.2.1, nC_at hs.1 hx (by have := hs.2.2.1; omega)]
  refine x_istore_n (pc := 68) (lv' := [(0, .ref rd), (1, .int (nI wi)), (2, .int (nI (wi + j))), (3, .int (nC (nxX t (p + j))))]) dX3_readOne_68 rfl (by decide) rfl ?_
  refine x_iload_n (pc := 69) dX3_readOne_69 rfl rfl ?_
  refine x_bipush (pc := 70) (v := 110) dX3_readOne_70 (by decide) ?_
  refine x_icmp_eq (pc := 72) (tgt := 101) dX3_readOne_72 (by decide) (fun c72 => ?_) (fun c72 => ?_)
  · skip
    have hlt : isLt (nxX t (p + j)) := by
      first
      | exact Or.inl ((nC_eq (by decide)).mp c72)
      | exact Or.inr (Or.inl ((nC_eq (by decide)).mp c78))
      | exact Or.inr (Or.inr (Or.inl ((nC_eq (by decide)).mp c84)))
      | exact Or.inr (Or.inr (Or.inr (Or.inl ((nC_eq (by decide)).mp c90))))
      | exact Or.inr (Or.inr (Or.inr (Or.inr ((nC_eq (by decide)).mp c96))))
    have h128 : nxX t (p + j) < 256 := by rcases hlt with z | z | z | z | z <;> rw [z] <;> decide
    rw [nC_lit h128]
    exact X.keep [0, 1, 2, 3] rfl (l_rO2b hG hx hb h4 hlt hs hl K1 K0)
  · skip
    refine x_iload_n (pc := 75) dX3_readOne_75 rfl rfl ?_
    refine x_bipush (pc := 76) (v := 104) dX3_readOne_76 (by decide) ?_
    refine x_icmp_eq (pc := 78) (tgt := 101) dX3_readOne_78 (by decide) (fun c78 => ?_) (fun c78 => ?_)
    · skip
      have hlt : isLt (nxX t (p + j)) := by
        first
        | exact Or.inl ((nC_eq (by decide)).mp c72)
        | exact Or.inr (Or.inl ((nC_eq (by decide)).mp c78))
        | exact Or.inr (Or.inr (Or.inl ((nC_eq (by decide)).mp c84)))
        | exact Or.inr (Or.inr (Or.inr (Or.inl ((nC_eq (by decide)).mp c90))))
        | exact Or.inr (Or.inr (Or.inr (Or.inr ((nC_eq (by decide)).mp c96))))
      have h128 : nxX t (p + j) < 256 := by rcases hlt with z | z | z | z | z <;> rw [z] <;> decide
      rw [nC_lit h128]
      exact X.keep [0, 1, 2, 3] rfl (l_rO2b hG hx hb h4 hlt hs hl K1 K0)
    · skip
      refine x_iload_n (pc := 81) dX3_readOne_81 rfl rfl ?_
      refine x_bipush (pc := 82) (v := 98) dX3_readOne_82 (by decide) ?_
      refine x_icmp_eq (pc := 84) (tgt := 101) dX3_readOne_84 (by decide) (fun c84 => ?_) (fun c84 => ?_)
      · skip
        have hlt : isLt (nxX t (p + j)) := by
          first
          | exact Or.inl ((nC_eq (by decide)).mp c72)
          | exact Or.inr (Or.inl ((nC_eq (by decide)).mp c78))
          | exact Or.inr (Or.inr (Or.inl ((nC_eq (by decide)).mp c84)))
          | exact Or.inr (Or.inr (Or.inr (Or.inl ((nC_eq (by decide)).mp c90))))
          | exact Or.inr (Or.inr (Or.inr (Or.inr ((nC_eq (by decide)).mp c96))))
        have h128 : nxX t (p + j) < 256 := by rcases hlt with z | z | z | z | z <;> rw [z] <;> decide
        rw [nC_lit h128]
        exact X.keep [0, 1, 2, 3] rfl (l_rO2b hG hx hb h4 hlt hs hl K1 K0)
      · skip
        refine x_iload_n (pc := 87) dX3_readOne_87 rfl rfl ?_
        refine x_bipush (pc := 88) (v := 99) dX3_readOne_88 (by decide) ?_
        refine x_icmp_eq (pc := 90) (tgt := 101) dX3_readOne_90 (by decide) (fun c90 => ?_) (fun c90 => ?_)
        · skip
          have hlt : isLt (nxX t (p + j)) := by
            first
            | exact Or.inl ((nC_eq (by decide)).mp c72)
            | exact Or.inr (Or.inl ((nC_eq (by decide)).mp c78))
            | exact Or.inr (Or.inr (Or.inl ((nC_eq (by decide)).mp c84)))
            | exact Or.inr (Or.inr (Or.inr (Or.inl ((nC_eq (by decide)).mp c90))))
            | exact Or.inr (Or.inr (Or.inr (Or.inr ((nC_eq (by decide)).mp c96))))
          have h128 : nxX t (p + j) < 256 := by rcases hlt with z | z | z | z | z <;> rw [z] <;> decide
          rw [nC_lit h128]
          exact X.keep [0, 1, 2, 3] rfl (l_rO2b hG hx hb h4 hlt hs hl K1 K0)
        · skip
          refine x_iload_n (pc := 93) dX3_readOne_93 rfl rfl ?_
          refine x_bipush (pc := 94) (v := 116) dX3_readOne_94 (by decide) ?_
          refine x_icmp_eq (pc := 96) (tgt := 101) dX3_readOne_96 (by decide) (fun c96 => ?_) (fun c96 => ?_)
          · skip
            have hlt : isLt (nxX t (p + j)) := by
              first
              | exact Or.inl ((nC_eq (by decide)).mp c72)
              | exact Or.inr (Or.inl ((nC_eq (by decide)).mp c78))
              | exact Or.inr (Or.inr (Or.inl ((nC_eq (by decide)).mp c84)))
              | exact Or.inr (Or.inr (Or.inr (Or.inl ((nC_eq (by decide)).mp c90))))
              | exact Or.inr (Or.inr (Or.inr (Or.inr ((nC_eq (by decide)).mp c96))))
            have h128 : nxX t (p + j) < 256 := by rcases hlt with z | z | z | z | z <;> rw [z] <;> decide
            rw [nC_lit h128]
            exact X.keep [0, 1, 2, 3] rfl (l_rO2b hG hx hb h4 hlt hs hl K1 K0)
          · skip
            refine x_iconst (pc := 99) (v := 0) dX3_readOne_99 (by decide) ?_
            refine x_ireturn (pc := 100) dX3_readOne_100 ⟨_, rfl, by decide⟩ ⟨Nat.le_refl _, Nat.le_refl _⟩ ?_
            exact K0 _ _ (PD.tbad hb h4 (tstF_0 (fun q => by
              rcases q with z | z | z | z | z
              · exact c72 ((nC_eq (by decide)).mpr z)
              · exact c78 ((nC_eq (by decide)).mpr z)
              · exact c84 ((nC_eq (by decide)).mpr z)
              · exact c90 ((nC_eq (by decide)).mpr z)
              · exact c96 ((nC_eq (by decide)).mpr z)))) hs.x rdP.rf

set_option maxHeartbeats 4000000 in
set_option maxRecDepth 100000 in
theorem l_rO2d {T : xT} {n : Nat} {sh : Nat → Nat × Nat} {I : xI} {R : xR} {L : xL} {P : xPost} {lr nw im tr rd hu se ac M : Nat} (hG : GEO sh R lr nw im tr rd hu se ac M) {t : xX} (hx : XOK t) {p wi : Nat} {l : List (Nat × Nat × Nat)} {j : Nat} (hb : BGs (nxX t) wi p j) (hs : RDS I rd t (p + j) l) (hl : l.length ≤ p) (hk : 2 ≤ wi) (K1 : ∀ (J : xI) (q : Nat) (e : xCE), PD (nxX t) 0 wi p none (q, some e) → RDS J rd t q (l ++ e.1) → rdP rd I J → P (n, sh, 0, 0) J R L (some (.int 1))) (K0 : ∀ (J : xI) (q : Nat), PD (nxX t) 0 wi p none (q, none) → RDX J rd t q → rdP rd I J → P (n, sh, 0, 0) J R L (some (.int 0)))  :  X T zX3_readOne 8 0 0 P 22 [(0, .ref rd), (1, .int (nI wi)), (2, .int (nI (wi + j)))] [] (n, sh, 0, 0) (I) R L := by
  have hb1 := hb.1
  refine x_iload_n (pc := 22) dX3_readOne_22 rfl rfl ?_
  refine x_iconst (pc := 23) (v := 4) dX3_readOne_23 (by decide) ?_
  refine x_icmpn_ge (pc := 24) (tgt := 57) (a := (wi + j)) (b := 4) dX3_readOne_24 (by decide) (by omega) (by decide) (fun c24 => ?_) (fun c24 => ?_)
  · skip
    first
    | exact X.keep [0, 1, 2] rfl (l_rO2a hG hx hb (Or.inr hc) hs hl K1 K0)
    | exact X.keep [0, 1, 2] rfl (l_rO2a hG hx hb (Or.inl (by omega)) hs hl K1 K0)
  · skip
    refine x_aload_n (pc := 27) dX3_readOne_27 rfl rfl ?_
    refine x_bipush (pc := 28) (v := 40) dX3_readOne_28 (by decide) ?_
    refine x_callV (pc := 30) (As := [.int _]) dX3_readOne_30 km_X3_accept kv_X3_accept kl_RX3_34 hG.g_rd rfl rfl (by decide) ⟨Nat.le_refl _, Nat.le_refl _⟩ rfl (Nat.le_of_ble_eq_true rfl) (Nat.le_of_ble_eq_true rfl) (c_accept (c := 40) hG hs.1 hx hs.2.1 hs.2.2.1 (by decide) (fun hc hlt => ⟨rfl, rfl, ?_⟩) (fun hc => ⟨rfl, rfl, ?_⟩))
    · skip
      refine x_if_eq_f (pc := 33) (tgt := 57) dX3_readOne_33 (by decide) (by decide) ?_
      refine x_aload_n (pc := 36) dX3_readOne_36 rfl rfl ?_
      refine x_iload_n (pc := 37) dX3_readOne_37 rfl rfl ?_
      refine x_iconst (pc := 38) (v := 1) dX3_readOne_38 (by decide) ?_
      refine x_iaddn (pc := 39) (a := (wi + j)) (b := 1) dX3_readOne_39 ?_
      refine x_callV (pc := 40) (As := [.int _]) dX3_readOne_40 km_X3_readEither kv_X3_readEither kl_RX3_66 hG.g_rd rfl rfl (by decide) ⟨Nat.le_refl _, Nat.le_refl _⟩ rfl (Nat.le_of_ble_eq_true rfl) (Nat.le_of_ble_eq_true rfl) (c_readEither3 (wi := wi + j + 1) hG hx (hs.nx hlt) (by omega) (by omega) (fun J q e h1 h2 fJ => ⟨rfl, rfl, ?_⟩) (fun J q h1 h2 fJ => ⟨rfl, rfl, ?_⟩))
      · skip
        refine x_if_eq_f (pc := 43) (tgt := 55) dX3_readOne_43 (by decide) (by decide) ?_
        refine x_aload_n (pc := 46) dX3_readOne_46 rfl rfl ?_
        refine x_bipush (pc := 47) (v := 41) dX3_readOne_47 (by decide) ?_
        refine x_callV (pc := 49) (As := [.int _]) dX3_readOne_49 km_X3_accept kv_X3_accept kl_RX3_34 hG.g_rd rfl rfl (by decide) ⟨Nat.le_refl _, Nat.le_refl _⟩ rfl (Nat.le_of_ble_eq_true rfl) (Nat.le_of_ble_eq_true rfl) (c_accept (c := 41) hG h2.1 hx h2.2.1 h2.2.2.1 (by decide) (fun hc2 hlt2 => ⟨rfl, rfl, ?_⟩) (fun hc2 => ⟨rfl, rfl, ?_⟩))
        · skip
          refine x_if_ne_t (pc := 52) (tgt := 183) dX3_readOne_52 (by decide) (by decide) ?_
          have g3 : p + j + 1 + e.1.length ≤ q := (pd_gd h1 e rfl).2.2.1
          exact X.keep [0, 1, 2] rfl (l_rO2e (p := p) (j := j) (e := e) hG hx (h2.nx hlt2) hb.1 (by omega) (fun J3 hs4 f3 => K1 J3 (q + 1) _ (PD.pok hb (by omega) hc h1 hc2) hs4 (((rdP.nx.tr fJ).tr rdP.nx).tr f3)))
        · skip
          refine x_if_ne_f (pc := 52) (tgt := 183) dX3_readOne_52 (by decide) (by decide) ?_
          refine x_iconst (pc := 55) (v := 0) dX3_readOne_55 (by decide) ?_
          refine x_ireturn (pc := 56) dX3_readOne_56 ⟨_, rfl, by decide⟩ ⟨Nat.le_refl _, Nat.le_refl _⟩ ?_
          first
          | exact K0 _ _ (PD.popen hb (by omega) hc h1 hc2) h2.x (rdP.nx.tr fJ)
          | exact K0 _ _ (PD.pbad hb (by omega) hc h1) h2 (rdP.nx.tr fJ)
      · skip
        refine x_if_eq_t (pc := 43) (tgt := 55) dX3_readOne_43 (by decide) (by decide) ?_
        refine x_iconst (pc := 55) (v := 0) dX3_readOne_55 (by decide) ?_
        refine x_ireturn (pc := 56) dX3_readOne_56 ⟨_, rfl, by decide⟩ ⟨Nat.le_refl _, Nat.le_refl _⟩ ?_
        first
        | exact K0 _ _ (PD.popen hb (by omega) hc h1 hc2) h2.x (rdP.nx.tr fJ)
        | exact K0 _ _ (PD.pbad hb (by omega) hc h1) h2 (rdP.nx.tr fJ)
    · skip
      refine x_if_eq_t (pc := 33) (tgt := 57) dX3_readOne_33 (by decide) (by decide) ?_
      first
      | exact X.keep [0, 1, 2] rfl (l_rO2a hG hx hb (Or.inr hc) hs hl K1 K0)
      | exact X.keep [0, 1, 2] rfl (l_rO2a hG hx hb (Or.inl (by omega)) hs hl K1 K0)

set_option maxHeartbeats 4000000 in
set_option maxRecDepth 100000 in
theorem c_readOne2 {T : xT} {n : Nat} {sh : Nat → Nat × Nat} {I : xI} {R : xR} {L : xL} {P : xPost} {lr nw im tr rd hu se ac M : Nat} (hG : GEO sh R lr nw im tr rd hu se ac M) {t : xX} (hx : XOK t) {p wi : Nat} {l : List (Nat × Nat × Nat)} (hs : RDS I rd t p l) (hk : 2 ≤ wi) (hw4 : wi ≤ 4) (K1 : ∀ (J : xI) (q : Nat) (e : xCE), PD (nxX t) 0 wi p none (q, some e) → RDS J rd t q (l ++ e.1) → rdP rd I J → P (n, sh, 0, 0) J R L (some (.int 1))) (K0 : ∀ (J : xI) (q : Nat), PD (nxX t) 0 wi p none (q, none) → RDX J rd t q → rdP rd I J → P (n, sh, 0, 0) J R L (some (.int 0)))  : XM T zX3_readOne 8 [.ref rd, .int (nI wi)] n sh I R L P := by
  refine x_iload_n (pc := 0) dX3_readOne_0 rfl rfl ?_
  refine x_istore_n (pc := 1) (lv' := [(0, .ref rd), (1, .int (nI wi)), (2, .int (nI wi))]) dX3_readOne_1 rfl (by decide) rfl ?_
  exact X.keep [0, 1, 2] rfl (l_rO2 hG hx hw4 (fun J j hb hs2 fj => l_rO2d hG hx hb hs2 hs.2.2.2.2 hk (fun J2 q e g1 g2 g3 => K1 J2 q e g1 g2 (fj.tr g3)) (fun J2 q g1 g2 g3 => K0 J2 q g1 g2 (fj.tr g3))) (4 - wi) 0 (by omega) I hs (fun k q => absurd q (by omega)) rdP.rf)

set_option maxHeartbeats 4000000 in
set_option maxRecDepth 100000 in
theorem l_rB2z {T : xT} {n : Nat} {sh : Nat → Nat × Nat} {I : xI} {R : xR} {L : xL} {P : xPost} {lr nw im tr rd hu se ac M : Nat} (hG : GEO sh R lr nw im tr rd hu se ac M) {t : xX} (hx : XOK t) {p wi : Nat} {l : List (Nat × Nat × Nat)} {i : Nat} (hi : i ≤ 100) (K : P (n, sh, 0, 0) I R L (some (.int 0)))  :  X T zX3_readBoth 9 0 0 P 8 [(0, .ref rd), (1, .int (nI wi)), (2, .int 0), (3, .int (nI i))] [] (n, sh, 0, 0) (I) R L := by
  refine x_iload_n (pc := 8) dX3_readBoth_8 rfl rfl ?_
  refine x_bipush (pc := 9) (v := 100) dX3_readBoth_9 (by decide) ?_
  refine x_icmpn_ge (pc := 11) (tgt := 50) (a := i) (b := 100) dX3_readBoth_11 (by decide) (by omega) (by decide) (fun c11 => ?_) (fun c11 => ?_)
  · skip
    refine x_iload_n (pc := 50) dX3_readBoth_50 rfl rfl ?_
    refine x_ireturn (pc := 51) dX3_readBoth_51 ⟨_, rfl, by decide⟩ ⟨Nat.le_refl _, Nat.le_refl _⟩ ?_
    exact K
  · skip
    refine x_iload_n (pc := 14) dX3_readBoth_14 rfl rfl ?_
    refine x_if_eq_t (pc := 15) (tgt := 50) dX3_readBoth_15 (by decide) (by decide) ?_
    refine x_iload_n (pc := 50) dX3_readBoth_50 rfl rfl ?_
    refine x_ireturn (pc := 51) dX3_readBoth_51 ⟨_, rfl, by decide⟩ ⟨Nat.le_refl _, Nat.le_refl _⟩ ?_
    exact K

set_option maxHeartbeats 4000000 in
set_option maxRecDepth 100000 in
theorem l_rB2 {T : xT} {n : Nat} {sh : Nat → Nat × Nat} {I : xI} {R : xR} {L : xL} {P : xPost} {lr nw im tr rd hu se ac M : Nat} (hG : GEO sh R lr nw im tr rd hu se ac M) {t : xX} (hx : XOK t) {p wi : Nat} {l : List (Nat × Nat × Nat)} (hk : 2 ≤ wi) (hw4 : wi ≤ 4) (K1 : ∀ (J : xI) (q : Nat) (e : xCE), PD (nxX t) 1 wi p none (q, some e) → nxX t q ≠ 38 → RDS J rd t q (l ++ e.1) → rdP rd I J → P (n, sh, 0, 0) J R L (some (.int 1))) (K0 : ∀ (J : xI) (q : Nat), PD (nxX t) 1 wi p none (q, none) → RDX J rd t q → rdP rd I J → P (n, sh, 0, 0) J R L (some (.int 0)))  : ∀ (w i : Nat), i + w = 100 → ∀ (J : xI) (q : Nat) (e : xCE), RDS J rd t q (l ++ e.1) → i ≤ q → (∀ r, PD (nxX t) 2 wi q (some e) r → PD (nxX t) 1 wi p none r) → rdP rd I J → X T zX3_readBoth 9 0 0 P 8 [(0, .ref rd), (1, .int (nI wi)), (2, .int 1), (3, .int (nI i))] [] (n, sh, 0, 0) (J) R L := by
  have x100 := hx.1
  intro w
  induction w with
  | zero =>
    intro i hw J q e hs hiq hct fj
    have hz : i = 100 := by omega
    refine x_iload_n (pc := 8) dX3_readBoth_8 rfl rfl ?_
    refine x_bipush (pc := 9) (v := 100) dX3_readBoth_9 (by decide) ?_
    refine x_icmpn_ge_t (pc := 11) (tgt := 50) (a := i) (b := 100) dX3_readBoth_11 (by decide) (by omega) (by decide) (by omega) ?_
    refine x_iload_n (pc := 50) dX3_readBoth_50 rfl rfl ?_
    refine x_ireturn (pc := 51) dX3_readBoth_51 ⟨_, rfl, by decide⟩ ⟨Nat.le_refl _, Nat.le_refl _⟩ ?_
    have hn : nxX t q ≠ 38 := by
      show (if q < t.1 then t.2 q else 256) ≠ 38
      rw [if_neg (by omega)]
      decide
    exact K1 J q e (hct _ (PD.Lend hn)) hn hs fj
  | succ w ih =>
    intro i hw J q e hs hiq hct fj
    have hi : i < 100 := by omega
    refine x_iload_n (pc := 8) dX3_readBoth_8 rfl rfl ?_
    refine x_bipush (pc := 9) (v := 100) dX3_readBoth_9 (by decide) ?_
    refine x_icmpn_ge_f (pc := 11) (tgt := 50) (a := i) (b := 100) dX3_readBoth_11 (by decide) (by omega) (by decide) (by omega) ?_
    refine x_iload_n (pc := 14) dX3_readBoth_14 rfl rfl ?_
    refine x_if_eq_f (pc := 15) (tgt := 50) dX3_readBoth_15 (by decide) (by decide) ?_
    refine x_aload_n (pc := 18) dX3_readBoth_18 rfl rfl ?_
    refine x_bipush (pc := 19) (v := 38) dX3_readBoth_19 (by decide) ?_
    refine x_callV (pc := 21) (As := [.int _]) dX3_readBoth_21 km_X3_accept kv_X3_accept kl_RX3_34 hG.g_rd rfl rfl (by decide) ⟨Nat.le_refl _, Nat.le_refl _⟩ rfl (Nat.le_of_ble_eq_true rfl) (Nat.le_of_ble_eq_true rfl) (c_accept (c := 38) hG hs.1 hx hs.2.1 hs.2.2.1 (by decide) (fun hc hlt => ⟨rfl, rfl, ?_⟩) (fun hc => ⟨rfl, rfl, ?_⟩))
    · skip
      refine x_if_eq_f (pc := 24) (tgt := 50) dX3_readBoth_24 (by decide) (by decide) ?_
      refine x_aload_n (pc := 27) dX3_readBoth_27 rfl rfl ?_
      refine x_iload_n (pc := 28) dX3_readBoth_28 rfl rfl ?_
      refine x_callV (pc := 29) (As := [.int _]) dX3_readBoth_29 km_X3_readOne kv_X3_readOne kl_RX3_76 hG.g_rd rfl rfl (by decide) ⟨Nat.le_refl _, Nat.le_refl _⟩ rfl (Nat.le_of_ble_eq_true rfl) (Nat.le_of_ble_eq_true rfl) (c_readOne2 hG hx (hs.nx hlt) hk hw4 (fun J2 q2 e2 h1 h2 f2 => ⟨rfl, rfl, ?_⟩) (fun J2 q2 h1 h2 f2 => ⟨rfl, rfl, ?_⟩))
      · skip
        refine x_istore_n (pc := 32) (lv' := [(0, .ref rd), (1, .int (nI wi)), (2, .int 1), (3, .int (nI i))]) dX3_readBoth_32 rfl (by decide) rfl ?_
        refine x_aload_n (pc := 33) dX3_readBoth_33 rfl rfl ?_
        refine x_getr (pc := 34) dX3_readBoth_34 kf_RX3_23 hG.g_rd rfl hG.g_rd1 ?_
        refine x_bipush (pc := 37) (v := 38) dX3_readBoth_37 (by decide) ?_
        refine x_iconst (pc := 39) (v := 0) dX3_readBoth_39 (by decide) ?_
        refine x_iconst (pc := 40) (v := 0) dX3_readBoth_40 (by decide) ?_
        refine x_callV (pc := 41) (As := [.int _, .int _, .int _]) dX3_readBoth_41 km_X4_add kv_X4_add kl_RX3_69 hG.g_draft.1 rfl rfl (by decide) ⟨Nat.le_refl _, Nat.le_refl _⟩ rfl (Nat.le_of_ble_eq_true rfl) (Nat.le_of_ble_eq_true rfl) (c_rgAdd (p := 38) (s := 0) (k := 0) hG.g_draft h2.2.2.2.1 (fun J3 d3 f3 => ⟨rfl, rfl, ?_⟩))
        refine x_iinc (pc := 44) (v := nI (i + 1)) (lv' := [(0, .ref rd), (1, .int (nI wi)), (2, .int 1), (3, .int (nI (i + 1)))]) dX3_readBoth_44 rfl (nI_1 _) (by decide) rfl ?_
        refine x_goto (pc := 47) (tgt := 8) dX3_readBoth_47 (by decide) ?_
        have g3 : q + 1 + e2.1.length ≤ q2 := (pd_gd h1 e2 rfl).2.2.1
        have hll := hs.2.2.2.2
        refine ih (i + 1) (by omega) J3 q2 (eA e e2) (h2.ad hx f3 d3 (by rw [List.length_append]; omega) ?_) (by omega) (fun r hr => hct r (PD.Lgo hc h1 hr)) (((fj.tr rdP.nx).tr f2).tr (rdP.rg f3))
        show l ++ (e.1 ++ e2.1 ++ [(38, 0, 0)]) = l ++ e.1 ++ e2.1 ++ [(38, 0, 0)]
        rw [← List.append_assoc, ← List.append_assoc]
      · skip
        refine x_istore_n (pc := 32) (lv' := [(0, .ref rd), (1, .int (nI wi)), (2, .int 0), (3, .int (nI i))]) dX3_readBoth_32 rfl (by decide) rfl ?_
        refine x_aload_n (pc := 33) dX3_readBoth_33 rfl rfl ?_
        refine x_getr (pc := 34) dX3_readBoth_34 kf_RX3_23 hG.g_rd rfl hG.g_rd1 ?_
        refine x_bipush (pc := 37) (v := 38) dX3_readBoth_37 (by decide) ?_
        refine x_iconst (pc := 39) (v := 0) dX3_readBoth_39 (by decide) ?_
        refine x_iconst (pc := 40) (v := 0) dX3_readBoth_40 (by decide) ?_
        refine x_callV (pc := 41) (As := [.int _, .int _, .int _]) dX3_readBoth_41 km_X4_add kv_X4_add kl_RX3_69 hG.g_draft.1 rfl rfl (by decide) ⟨Nat.le_refl _, Nat.le_refl _⟩ rfl (Nat.le_of_ble_eq_true rfl) (Nat.le_of_ble_eq_true rfl) (c_rgAdd (p := 38) (s := 0) (k := 0) hG.g_draft h2.2.2.2.choose_spec (fun J3 d3 f3 => ⟨rfl, rfl, ?_⟩))
        refine x_iinc (pc := 44) (v := nI (i + 1)) (lv' := [(0, .ref rd), (1, .int (nI wi)), (2, .int 0), (3, .int (nI (i + 1)))]) dX3_readBoth_44 rfl (nI_1 _) (by decide) rfl ?_
        refine x_goto (pc := 47) (tgt := 8) dX3_readBoth_47 (by decide) ?_
        exact l_rB2z hG hx (p := p) (l := l) (t := t) (wi := wi) (i := i + 1) (by omega) (K0 J3 q2 (hct _ (PD.Lbad hc h1)) (h2.ad f3 d3) (((fj.tr rdP.nx).tr f2).tr (rdP.rg f3)))
    · skip
      refine x_if_eq_t (pc := 24) (tgt := 50) dX3_readBoth_24 (by decide) (by decide) ?_
      refine x_iload_n (pc := 50) dX3_readBoth_50 rfl rfl ?_
      refine x_ireturn (pc := 51) dX3_readBoth_51 ⟨_, rfl, by decide⟩ ⟨Nat.le_refl _, Nat.le_refl _⟩ ?_
      have hn : nxX t q ≠ 38 := hc
      exact K1 J q e (hct _ (PD.Lend hn)) hn hs fj

set_option maxHeartbeats 4000000 in
set_option maxRecDepth 100000 in
theorem c_readBoth2 {T : xT} {n : Nat} {sh : Nat → Nat × Nat} {I : xI} {R : xR} {L : xL} {P : xPost} {lr nw im tr rd hu se ac M : Nat} (hG : GEO sh R lr nw im tr rd hu se ac M) {t : xX} (hx : XOK t) {p wi : Nat} {l : List (Nat × Nat × Nat)} (hs : RDS I rd t p l) (hk : 2 ≤ wi) (hw4 : wi ≤ 4) (K1 : ∀ (J : xI) (q : Nat) (e : xCE), PD (nxX t) 1 wi p none (q, some e) → nxX t q ≠ 38 → RDS J rd t q (l ++ e.1) → rdP rd I J → P (n, sh, 0, 0) J R L (some (.int 1))) (K0 : ∀ (J : xI) (q : Nat), PD (nxX t) 1 wi p none (q, none) → RDX J rd t q → rdP rd I J → P (n, sh, 0, 0) J R L (some (.int 0)))  : XM T zX3_readBoth 9 [.ref rd, .int (nI wi)] n sh I R L P := by
  refine x_aload_n (pc := 0) dX3_readBoth_0 rfl rfl ?_
  refine x_iload_n (pc := 1) dX3_readBoth_1 rfl rfl ?_
  refine x_callV (pc := 2) (As := [.int _]) dX3_readBoth_2 km_X3_readOne kv_X3_readOne kl_RX3_76 hG.g_rd rfl rfl (by decide) ⟨Nat.le_refl _, Nat.le_refl _⟩ rfl (Nat.le_of_ble_eq_true rfl) (Nat.le_of_ble_eq_true rfl) (c_readOne2 hG hx hs hk hw4 (fun J q e h1 h2 f2 => ⟨rfl, rfl, ?_⟩) (fun J q h1 h2 f2 => ⟨rfl, rfl, ?_⟩))
  · skip
    refine x_istore_n (pc := 5) (lv' := [(0, .ref rd), (1, .int (nI wi)), (2, .int 1)]) dX3_readBoth_5 rfl (by decide) rfl ?_
    refine x_iconst (pc := 6) (v := 0) dX3_readBoth_6 (by decide) ?_
    refine x_istore_n (pc := 7) (lv' := [(0, .ref rd), (1, .int (nI wi)), (2, .int 1), (3, .int 0)]) dX3_readBoth_7 rfl (by decide) rfl ?_
    exact l_rB2 hG hx hk hw4 K1 K0 100 0 (by omega) J q e h2 (by omega) (fun r hr => PD.Tgo h1 hr) f2
  · skip
    refine x_istore_n (pc := 5) (lv' := [(0, .ref rd), (1, .int (nI wi)), (2, .int 0)]) dX3_readBoth_5 rfl (by decide) rfl ?_
    refine x_iconst (pc := 6) (v := 0) dX3_readBoth_6 (by decide) ?_
    refine x_istore_n (pc := 7) (lv' := [(0, .ref rd), (1, .int (nI wi)), (2, .int 0), (3, .int 0)]) dX3_readBoth_7 rfl (by decide) rfl ?_
    exact l_rB2z hG hx (p := p) (l := l) (t := t) (wi := wi) (i := 0) (by omega) (K0 J q (PD.Tbad h1) h2 f2)

set_option maxHeartbeats 4000000 in
set_option maxRecDepth 100000 in
theorem l_rE2z {T : xT} {n : Nat} {sh : Nat → Nat × Nat} {I : xI} {R : xR} {L : xL} {P : xPost} {lr nw im tr rd hu se ac M : Nat} (hG : GEO sh R lr nw im tr rd hu se ac M) {t : xX} (hx : XOK t) {p wi : Nat} {l : List (Nat × Nat × Nat)} {i : Nat} (hi : i ≤ 100) (K : P (n, sh, 0, 0) I R L (some (.int 0)))  :  X T zX3_readEither 10 0 0 P 8 [(0, .ref rd), (1, .int (nI wi)), (2, .int 0), (3, .int (nI i))] [] (n, sh, 0, 0) (I) R L := by
  refine x_iload_n (pc := 8) dX3_readEither_8 rfl rfl ?_
  refine x_bipush (pc := 9) (v := 100) dX3_readEither_9 (by decide) ?_
  refine x_icmpn_ge (pc := 11) (tgt := 50) (a := i) (b := 100) dX3_readEither_11 (by decide) (by omega) (by decide) (fun c11 => ?_) (fun c11 => ?_)
  · skip
    refine x_iload_n (pc := 50) dX3_readEither_50 rfl rfl ?_
    refine x_ireturn (pc := 51) dX3_readEither_51 ⟨_, rfl, by decide⟩ ⟨Nat.le_refl _, Nat.le_refl _⟩ ?_
    exact K
  · skip
    refine x_iload_n (pc := 14) dX3_readEither_14 rfl rfl ?_
    refine x_if_eq_t (pc := 15) (tgt := 50) dX3_readEither_15 (by decide) (by decide) ?_
    refine x_iload_n (pc := 50) dX3_readEither_50 rfl rfl ?_
    refine x_ireturn (pc := 51) dX3_readEither_51 ⟨_, rfl, by decide⟩ ⟨Nat.le_refl _, Nat.le_refl _⟩ ?_
    exact K

set_option maxHeartbeats 4000000 in
set_option maxRecDepth 100000 in
theorem l_rE2 {T : xT} {n : Nat} {sh : Nat → Nat × Nat} {I : xI} {R : xR} {L : xL} {P : xPost} {lr nw im tr rd hu se ac M : Nat} (hG : GEO sh R lr nw im tr rd hu se ac M) {t : xX} (hx : XOK t) {p wi : Nat} {l : List (Nat × Nat × Nat)} (hk : 2 ≤ wi) (hw4 : wi ≤ 4) (K1 : ∀ (J : xI) (q : Nat) (e : xCE), PD (nxX t) 3 wi p none (q, some e) → RDS J rd t q (l ++ e.1) → rdP rd I J → P (n, sh, 0, 0) J R L (some (.int 1))) (K0 : ∀ (J : xI) (q : Nat), PD (nxX t) 3 wi p none (q, none) → RDX J rd t q → rdP rd I J → P (n, sh, 0, 0) J R L (some (.int 0)))  : ∀ (w i : Nat), i + w = 100 → ∀ (J : xI) (q : Nat) (e : xCE), nxX t q ≠ 38 → RDS J rd t q (l ++ e.1) → i ≤ q → (∀ r, PD (nxX t) 4 wi q (some e) r → PD (nxX t) 3 wi p none r) → rdP rd I J → X T zX3_readEither 10 0 0 P 8 [(0, .ref rd), (1, .int (nI wi)), (2, .int 1), (3, .int (nI i))] [] (n, sh, 0, 0) (J) R L := by
  have x100 := hx.1
  intro w
  induction w with
  | zero =>
    intro i hw J q e hn8 hs hiq hct fj
    have hz : i = 100 := by omega
    refine x_iload_n (pc := 8) dX3_readEither_8 rfl rfl ?_
    refine x_bipush (pc := 9) (v := 100) dX3_readEither_9 (by decide) ?_
    refine x_icmpn_ge_t (pc := 11) (tgt := 50) (a := i) (b := 100) dX3_readEither_11 (by decide) (by omega) (by decide) (by omega) ?_
    refine x_iload_n (pc := 50) dX3_readEither_50 rfl rfl ?_
    refine x_ireturn (pc := 51) dX3_readEither_51 ⟨_, rfl, by decide⟩ ⟨Nat.le_refl _, Nat.le_refl _⟩ ?_
    have hn : nxX t q ≠ 124 := by
      show (if q < t.1 then t.2 q else 256) ≠ 124
      rw [if_neg (by omega)]
      decide
    exact K1 J q e (hct _ (PD.Mend hn8 hn)) hs fj
  | succ w ih =>
    intro i hw J q e hn8 hs hiq hct fj
    have hi : i < 100 := by omega
    refine x_iload_n (pc := 8) dX3_readEither_8 rfl rfl ?_
    refine x_bipush (pc := 9) (v := 100) dX3_readEither_9 (by decide) ?_
    refine x_icmpn_ge_f (pc := 11) (tgt := 50) (a := i) (b := 100) dX3_readEither_11 (by decide) (by omega) (by decide) (by omega) ?_
    refine x_iload_n (pc := 14) dX3_readEither_14 rfl rfl ?_
    refine x_if_eq_f (pc := 15) (tgt := 50) dX3_readEither_15 (by decide) (by decide) ?_
    refine x_aload_n (pc := 18) dX3_readEither_18 rfl rfl ?_
    refine x_bipush (pc := 19) (v := 124) dX3_readEither_19 (by decide) ?_
    refine x_callV (pc := 21) (As := [.int _]) dX3_readEither_21 km_X3_accept kv_X3_accept kl_RX3_34 hG.g_rd rfl rfl (by decide) ⟨Nat.le_refl _, Nat.le_refl _⟩ rfl (Nat.le_of_ble_eq_true rfl) (Nat.le_of_ble_eq_true rfl) (c_accept (c := 124) hG hs.1 hx hs.2.1 hs.2.2.1 (by decide) (fun hc hlt => ⟨rfl, rfl, ?_⟩) (fun hc => ⟨rfl, rfl, ?_⟩))
    · skip
      refine x_if_eq_f (pc := 24) (tgt := 50) dX3_readEither_24 (by decide) (by decide) ?_
      refine x_aload_n (pc := 27) dX3_readEither_27 rfl rfl ?_
      refine x_iload_n (pc := 28) dX3_readEither_28 rfl rfl ?_
      refine x_callV (pc := 29) (As := [.int _]) dX3_readEither_29 km_X3_readBoth kv_X3_readBoth kl_RX3_73 hG.g_rd rfl rfl (by decide) ⟨Nat.le_refl _, Nat.le_refl _⟩ rfl (Nat.le_of_ble_eq_true rfl) (Nat.le_of_ble_eq_true rfl) (c_readBoth2 hG hx (hs.nx hlt) hk hw4 (fun J2 q2 e2 h1 hn2 h2 f2 => ⟨rfl, rfl, ?_⟩) (fun J2 q2 h1 h2 f2 => ⟨rfl, rfl, ?_⟩))
      · skip
        refine x_istore_n (pc := 32) (lv' := [(0, .ref rd), (1, .int (nI wi)), (2, .int 1), (3, .int (nI i))]) dX3_readEither_32 rfl (by decide) rfl ?_
        refine x_aload_n (pc := 33) dX3_readEither_33 rfl rfl ?_
        refine x_getr (pc := 34) dX3_readEither_34 kf_RX3_23 hG.g_rd rfl hG.g_rd1 ?_
        refine x_bipush (pc := 37) (v := 124) dX3_readEither_37 (by decide) ?_
        refine x_iconst (pc := 39) (v := 0) dX3_readEither_39 (by decide) ?_
        refine x_iconst (pc := 40) (v := 0) dX3_readEither_40 (by decide) ?_
        refine x_callV (pc := 41) (As := [.int _, .int _, .int _]) dX3_readEither_41 km_X4_add kv_X4_add kl_RX3_69 hG.g_draft.1 rfl rfl (by decide) ⟨Nat.le_refl _, Nat.le_refl _⟩ rfl (Nat.le_of_ble_eq_true rfl) (Nat.le_of_ble_eq_true rfl) (c_rgAdd (p := 124) (s := 0) (k := 0) hG.g_draft h2.2.2.2.1 (fun J3 d3 f3 => ⟨rfl, rfl, ?_⟩))
        refine x_iinc (pc := 44) (v := nI (i + 1)) (lv' := [(0, .ref rd), (1, .int (nI wi)), (2, .int 1), (3, .int (nI (i + 1)))]) dX3_readEither_44 rfl (nI_1 _) (by decide) rfl ?_
        refine x_goto (pc := 47) (tgt := 8) dX3_readEither_47 (by decide) ?_
        have g3 : q + 1 + e2.1.length ≤ q2 := (pd_gd h1 e2 rfl).2.2.1
        have hll := hs.2.2.2.2
        refine ih (i + 1) (by omega) J3 q2 (eO e e2) hn2 (h2.ad hx f3 d3 (by rw [List.length_append]; omega) ?_) (by omega) (fun r hr => hct r (PD.Mgo hc h1 hr)) (((fj.tr rdP.nx).tr f2).tr (rdP.rg f3))
        show l ++ (e.1 ++ e2.1 ++ [(124, 0, 0)]) = l ++ e.1 ++ e2.1 ++ [(124, 0, 0)]
        rw [← List.append_assoc, ← List.append_assoc]
      · skip
        refine x_istore_n (pc := 32) (lv' := [(0, .ref rd), (1, .int (nI wi)), (2, .int 0), (3, .int (nI i))]) dX3_readEither_32 rfl (by decide) rfl ?_
        refine x_aload_n (pc := 33) dX3_readEither_33 rfl rfl ?_
        refine x_getr (pc := 34) dX3_readEither_34 kf_RX3_23 hG.g_rd rfl hG.g_rd1 ?_
        refine x_bipush (pc := 37) (v := 124) dX3_readEither_37 (by decide) ?_
        refine x_iconst (pc := 39) (v := 0) dX3_readEither_39 (by decide) ?_
        refine x_iconst (pc := 40) (v := 0) dX3_readEither_40 (by decide) ?_
        refine x_callV (pc := 41) (As := [.int _, .int _, .int _]) dX3_readEither_41 km_X4_add kv_X4_add kl_RX3_69 hG.g_draft.1 rfl rfl (by decide) ⟨Nat.le_refl _, Nat.le_refl _⟩ rfl (Nat.le_of_ble_eq_true rfl) (Nat.le_of_ble_eq_true rfl) (c_rgAdd (p := 124) (s := 0) (k := 0) hG.g_draft h2.2.2.2.choose_spec (fun J3 d3 f3 => ⟨rfl, rfl, ?_⟩))
        refine x_iinc (pc := 44) (v := nI (i + 1)) (lv' := [(0, .ref rd), (1, .int (nI wi)), (2, .int 0), (3, .int (nI (i + 1)))]) dX3_readEither_44 rfl (nI_1 _) (by decide) rfl ?_
        refine x_goto (pc := 47) (tgt := 8) dX3_readEither_47 (by decide) ?_
        exact l_rE2z hG hx (p := p) (l := l) (t := t) (wi := wi) (i := i + 1) (by omega) (K0 J3 q2 (hct _ (PD.Mbad hc h1)) (h2.ad f3 d3) (((fj.tr rdP.nx).tr f2).tr (rdP.rg f3)))
    · skip
      refine x_if_eq_t (pc := 24) (tgt := 50) dX3_readEither_24 (by decide) (by decide) ?_
      refine x_iload_n (pc := 50) dX3_readEither_50 rfl rfl ?_
      refine x_ireturn (pc := 51) dX3_readEither_51 ⟨_, rfl, by decide⟩ ⟨Nat.le_refl _, Nat.le_refl _⟩ ?_
      have hn : nxX t q ≠ 124 := hc
      exact K1 J q e (hct _ (PD.Mend hn8 hn)) hs fj

set_option maxHeartbeats 4000000 in
set_option maxRecDepth 100000 in
theorem c_readEither2 {T : xT} {n : Nat} {sh : Nat → Nat × Nat} {I : xI} {R : xR} {L : xL} {P : xPost} {lr nw im tr rd hu se ac M : Nat} (hG : GEO sh R lr nw im tr rd hu se ac M) {t : xX} (hx : XOK t) {p wi : Nat} {l : List (Nat × Nat × Nat)} (hs : RDS I rd t p l) (hk : 2 ≤ wi) (hw4 : wi ≤ 4) (K1 : ∀ (J : xI) (q : Nat) (e : xCE), PD (nxX t) 3 wi p none (q, some e) → RDS J rd t q (l ++ e.1) → rdP rd I J → P (n, sh, 0, 0) J R L (some (.int 1))) (K0 : ∀ (J : xI) (q : Nat), PD (nxX t) 3 wi p none (q, none) → RDX J rd t q → rdP rd I J → P (n, sh, 0, 0) J R L (some (.int 0)))  : XM T zX3_readEither 10 [.ref rd, .int (nI wi)] n sh I R L P := by
  refine x_aload_n (pc := 0) dX3_readEither_0 rfl rfl ?_
  refine x_iload_n (pc := 1) dX3_readEither_1 rfl rfl ?_
  refine x_callV (pc := 2) (As := [.int _]) dX3_readEither_2 km_X3_readBoth kv_X3_readBoth kl_RX3_73 hG.g_rd rfl rfl (by decide) ⟨Nat.le_refl _, Nat.le_refl _⟩ rfl (Nat.le_of_ble_eq_true rfl) (Nat.le_of_ble_eq_true rfl) (c_readBoth2 hG hx hs hk hw4 (fun J q e h1 hn2 h2 f2 => ⟨rfl, rfl, ?_⟩) (fun J q h1 h2 f2 => ⟨rfl, rfl, ?_⟩))
  · skip
    refine x_istore_n (pc := 5) (lv' := [(0, .ref rd), (1, .int (nI wi)), (2, .int 1)]) dX3_readEither_5 rfl (by decide) rfl ?_
    refine x_iconst (pc := 6) (v := 0) dX3_readEither_6 (by decide) ?_
    refine x_istore_n (pc := 7) (lv' := [(0, .ref rd), (1, .int (nI wi)), (2, .int 1), (3, .int 0)]) dX3_readEither_7 rfl (by decide) rfl ?_
    exact l_rE2 hG hx hk hw4 K1 K0 100 0 (by omega) J q e hn2 h2 (by omega) (fun r hr => PD.Ego h1 hr) f2
  · skip
    refine x_istore_n (pc := 5) (lv' := [(0, .ref rd), (1, .int (nI wi)), (2, .int 0)]) dX3_readEither_5 rfl (by decide) rfl ?_
    refine x_iconst (pc := 6) (v := 0) dX3_readEither_6 (by decide) ?_
    refine x_istore_n (pc := 7) (lv' := [(0, .ref rd), (1, .int (nI wi)), (2, .int 0), (3, .int 0)]) dX3_readEither_7 rfl (by decide) rfl ?_
    exact l_rE2z hG hx (p := p) (l := l) (t := t) (wi := wi) (i := 0) (by omega) (K0 J q (PD.Ebad h1) h2 f2)

set_option maxHeartbeats 4000000 in
set_option maxRecDepth 100000 in
theorem l_rO1 {T : xT} {n : Nat} {sh : Nat → Nat × Nat} {I : xI} {R : xR} {L : xL} {P : xPost} {lr nw im tr rd hu se ac M : Nat} (hG : GEO sh R lr nw im tr rd hu se ac M) {t : xX} (hx : XOK t) {p wi : Nat} {l : List (Nat × Nat × Nat)} (hw4 : wi ≤ 4) (K : ∀ (J : xI) (j : Nat), BGs (nxX t) wi p j → RDS J rd t (p + j) l → rdP rd I J → X T zX3_readOne 11 0 0 P 22 [(0, .ref rd), (1, .int (nI wi)), (2, .int (nI (wi + j)))] [] (n, sh, 0, 0) J R L)  : ∀ (w i : Nat), i + w = 4 - wi → ∀ (J : xI), RDS J rd t (p + i) l → (∀ k, k < i → nxX t (p + k) = 33) → rdP rd I J → X T zX3_readOne 11 0 0 P 2 [(0, .ref rd), (1, .int (nI wi)), (2, .int (nI (wi + i)))] [] (n, sh, 0, 0) (J) R L := by
  intro w
  induction w with
  | zero =>
    intro i hw J hs hb fj
    have hz : i = 4 - wi := by omega
    refine x_iload_n (pc := 2) dX3_readOne_2 rfl rfl ?_
    refine x_iconst (pc := 3) (v := 4) dX3_readOne_3 (by decide) ?_
    refine x_icmpn_ge_t (pc := 4) (tgt := 22) (a := (wi + i)) (b := 4) dX3_readOne_4 (by decide) (by omega) (by decide) (by omega) ?_
    exact X.keep [0, 1, 2] rfl (K J i ⟨by omega, hb, Or.inl (by omega)⟩ hs fj)
  | succ w ih =>
    intro i hw J hs hb fj
    have hi : i < 4 - wi := by omega
    refine x_iload_n (pc := 2) dX3_readOne_2 rfl rfl ?_
    refine x_iconst (pc := 3) (v := 4) dX3_readOne_3 (by decide) ?_
    refine x_icmpn_ge_f (pc := 4) (tgt := 22) (a := (wi + i)) (b := 4) dX3_readOne_4 (by decide) (by omega) (by decide) (by omega) ?_
    refine x_aload_n (pc := 7) dX3_readOne_7 rfl rfl ?_
    refine x_bipush (pc := 8) (v := 33) dX3_readOne_8 (by decide) ?_
    refine x_callV (pc := 10) (As := [.int _]) dX3_readOne_10 km_X3_accept kv_X3_accept kl_RX3_34 hG.g_rd rfl rfl (by decide) ⟨Nat.le_refl _, Nat.le_refl _⟩ rfl (Nat.le_of_ble_eq_true rfl) (Nat.le_of_ble_eq_true rfl) (c_accept (c := 33) hG hs.1 hx hs.2.1 hs.2.2.1 (by decide) (fun hc hlt => ⟨rfl, rfl, ?_⟩) (fun hc => ⟨rfl, rfl, ?_⟩))
    · skip
      refine x_if_eq_f (pc := 13) (tgt := 22) dX3_readOne_13 (by decide) (by decide) ?_
      refine x_iinc (pc := 16) (v := nI (wi + i + 1)) (lv' := [(0, .ref rd), (1, .int (nI wi)), (2, .int (nI (wi + i + 1)))]) dX3_readOne_16 rfl (nI_1 _) (by decide) rfl ?_
      refine x_goto (pc := 19) (tgt := 2) dX3_readOne_19 (by decide) ?_
      refine ih (i + 1) (by omega) _ (hs.nx hlt) (fun k hk => ?_) (fj.tr rdP.nx)
      rcases Nat.lt_succ_iff_lt_or_eq.mp hk with z | z
      · exact hb k z
      · rw [z]; exact hc
    · skip
      refine x_if_eq_t (pc := 13) (tgt := 22) dX3_readOne_13 (by decide) (by decide) ?_
      exact X.keep [0, 1, 2] rfl (K J i ⟨by omega, hb, Or.inr hc⟩ hs fj)

set_option maxHeartbeats 4000000 in
set_option maxRecDepth 100000 in
theorem l_rO1e {T : xT} {n : Nat} {sh : Nat → Nat × Nat} {I : xI} {R : xR} {L : xL} {P : xPost} {lr nw im tr rd hu se ac M : Nat} (hG : GEO sh R lr nw im tr rd hu se ac M) {t : xX} (hx : XOK t) {p wi : Nat} {l : List (Nat × Nat × Nat)} {j q : Nat} {e : xCE} (hs : RDS I rd t q (l ++ e.1)) (hw4 : wi + j ≤ 4) (hl : l.length + e.1.length + j ≤ q) (K : ∀ J : xI, RDS J rd t q (l ++ (eN j e).1) → rdP rd I J → P (n, sh, 0, 0) J R L (some (.int 1)))  :  X T zX3_readOne 11 0 0 P 183 [(0, .ref rd), (1, .int (nI wi)), (2, .int (nI (wi + j)))] [] (n, sh, 0, 0) (I) R L := by
  refine x_iload_n (pc := 183) dX3_readOne_183 rfl rfl ?_
  refine x_iload_n (pc := 184) dX3_readOne_184 rfl rfl ?_
  refine x_isub (pc := 185) dX3_readOne_185 ?_
  rw [show nI (wi + j) - nI wi = nI j from by rw [pk_sub (by omega), Nat.add_sub_cancel_left]]
  refine x_iconst (pc := 186) (v := 2) dX3_readOne_186 (by decide) ?_
  refine x_iremn (pc := 187) (a := j) (b := 2) dX3_readOne_187 (by omega) (by decide) (by decide) ?_
  refine x_ifn_eq (pc := 188) (tgt := 202) (a := (j % 2)) dX3_readOne_188 (by decide) (by omega) (fun c188 => ?_) (fun c188 => ?_)
  · skip
    refine x_iconst (pc := 202) (v := 1) dX3_readOne_202 (by decide) ?_
    refine x_ireturn (pc := 203) dX3_readOne_203 ⟨_, rfl, by decide⟩ ⟨Nat.le_refl _, Nat.le_refl _⟩ ?_
    first
    | exact K J (hs.ad hx fJ dJ (by rw [List.length_append]; omega) (by show l ++ (e.1 ++ (if j % 2 = 1 then [(33, 0, 0)] else [])) = _; rw [if_pos (by omega), List.append_assoc])) (rdP.rg fJ)
    | exact K I (by rw [show l ++ (eN j e).1 = l ++ e.1 from by show l ++ (e.1 ++ (if j % 2 = 1 then [(33, 0, 0)] else [])) = _; rw [if_neg (by omega), List.append_nil]]; exact hs) rdP.rf
  · skip
    refine x_aload_n (pc := 191) dX3_readOne_191 rfl rfl ?_
    refine x_getr (pc := 192) dX3_readOne_192 kf_RX3_23 hG.g_rd rfl hG.g_rd1 ?_
    refine x_bipush (pc := 195) (v := 33) dX3_readOne_195 (by decide) ?_
    refine x_iconst (pc := 197) (v := 0) dX3_readOne_197 (by decide) ?_
    refine x_iconst (pc := 198) (v := 0) dX3_readOne_198 (by decide) ?_
    refine x_callV (pc := 199) (As := [.int _, .int _, .int _]) dX3_readOne_199 km_X4_add kv_X4_add kl_RX3_69 hG.g_draft.1 rfl rfl (by decide) ⟨Nat.le_refl _, Nat.le_refl _⟩ rfl (Nat.le_of_ble_eq_true rfl) (Nat.le_of_ble_eq_true rfl) (c_rgAdd (p := 33) (s := 0) (k := 0) hG.g_draft hs.2.2.2.1 (fun J dJ fJ => ⟨rfl, rfl, ?_⟩))
    refine x_iconst (pc := 202) (v := 1) dX3_readOne_202 (by decide) ?_
    refine x_ireturn (pc := 203) dX3_readOne_203 ⟨_, rfl, by decide⟩ ⟨Nat.le_refl _, Nat.le_refl _⟩ ?_
    first
    | exact K J (hs.ad hx fJ dJ (by rw [List.length_append]; omega) (by show l ++ (e.1 ++ (if j % 2 = 1 then [(33, 0, 0)] else [])) = _; rw [if_pos (by omega), List.append_assoc])) (rdP.rg fJ)
    | exact K I (by rw [show l ++ (eN j e).1 = l ++ e.1 from by show l ++ (e.1 ++ (if j % 2 = 1 then [(33, 0, 0)] else [])) = _; rw [if_neg (by omega), List.append_nil]]; exact hs) rdP.rf

set_option maxHeartbeats 4000000 in
set_option maxRecDepth 100000 in
theorem l_rO1c {T : xT} {n : Nat} {sh : Nat → Nat × Nat} {I : xI} {R : xR} {L : xL} {P : xPost} {lr nw im tr rd hu se ac M : Nat} (hG : GEO sh R lr nw im tr rd hu se ac M) {t : xX} (hx : XOK t) {p wi : Nat} {l : List (Nat × Nat × Nat)} {j : Nat} (hb : BGs (nxX t) wi p j) (h4 : wi + j = 4 ∨ nxX t (p + j) ≠ 40) (hlt : isLt (nxX t (p + j))) (hsg : isSg (nxX t (p + j + 1))) (hs : RDS I rd t (p + j + 1) l) (hl : l.length ≤ p) (K1 : ∀ (J : xI) (q : Nat) (e : xCE), PD (nxX t) 0 wi p none (q, some e) → RDS J rd t q (l ++ e.1) → rdP rd I J → P (n, sh, 0, 0) J R L (some (.int 1))) (K0 : ∀ (J : xI) (q : Nat), PD (nxX t) 0 wi p none (q, none) → RDX J rd t q → rdP rd I J → P (n, sh, 0, 0) J R L (some (.int 0)))  :  X T zX3_readOne 11 0 0 P 147 [(0, .ref rd), (1, .int (nI wi)), (2, .int (nI (wi + j))), (3, .int (nI (nxX t (p + j)))), (4, .int (nI (nxX t (p + j + 1))))] [] (n, sh, 0, 0) (I) R L := by
  have x100 := hx.1
  have l1 : p + j + 1 < t.1 := by
    have : 60 ≤ nxX t (p + j + 1) ∧ nxX t (p + j + 1) ≤ 62 := hsg
    exact nxX_lt rfl (by omega)
  have hs2 := hs.nx l1
  refine x_aload_n (pc := 147) dX3_readOne_147 rfl rfl ?_
  refine x_dup (pc := 148) dX3_readOne_148 rfl ?_
  refine x_get (pc := 149) dX3_readOne_149 kf_RX3_27 hG.g_rd rfl ?_
  rw [hs.2.1]
  refine x_iconst (pc := 152) (v := 1) dX3_readOne_152 (by decide) ?_
  refine x_iaddn (pc := 153) (a := (p + j + 1)) (b := 1) dX3_readOne_153 ?_
  refine x_put (pc := 154) dX3_readOne_154 kf_RX3_27 hG.g_rd rfl (Or.inl kb_3_2) ?_
  refine x_aload_n (pc := 157) dX3_readOne_157 rfl rfl ?_
  refine x_callV (pc := 158) (As := []) dX3_readOne_158 km_X3_readNumber kv_X3_readNumber kl_RX3_59 hG.g_rd rfl rfl (by decide) ⟨Nat.le_refl _, Nat.le_refl _⟩ rfl (Nat.le_of_ble_eq_true rfl) (Nat.le_of_ble_eq_true rfl) (c_readNumber (p := p + j + 2) hG hs2.1 hx hs2.2.1 hs2.2.2.1 (fun q k hn hq J eJ fJ => ⟨rfl, rfl, ?_⟩) (fun hn => ⟨rfl, rfl, ?_⟩))
  · skip
    have hk := (numF_p hn).2
    have hq1 := (numF_p hn).1
    have hs3 := hs2.go fJ eJ hq (show p + j + 1 + 1 ≤ q by have : p + j + 2 + 1 ≤ q := hq1; omega)
    refine x_istore (pc := 161) (lv' := [(0, .ref rd), (1, .int (nI wi)), (2, .int (nI (wi + j))), (3, .int (nI (nxX t (p + j)))), (4, .int (nI (nxX t (p + j + 1)))), (5, .int (nI k))]) dX3_readOne_161 (by decide) rfl ?_
    refine x_iload (pc := 163) dX3_readOne_163 rfl ?_
    refine x_iconst (pc := 165) (v := -1) dX3_readOne_165 (by decide) ?_
    refine x_icmp_ne_t (pc := 166) (tgt := 171) dX3_readOne_166 (by decide) (nI_nem (by omega)) ?_
    refine x_aload_n (pc := 171) dX3_readOne_171 rfl rfl ?_
    refine x_getr (pc := 172) dX3_readOne_172 kf_RX3_23 hG.g_rd rfl hG.g_rd1 ?_
    refine x_iload_n (pc := 175) dX3_readOne_175 rfl rfl ?_
    refine x_iload (pc := 176) dX3_readOne_176 rfl ?_
    refine x_iload (pc := 178) dX3_readOne_178 rfl ?_
    refine x_callV (pc := 180) (As := [.int _, .int _, .int _]) dX3_readOne_180 km_X4_add kv_X4_add kl_RX3_69 hG.g_draft.1 rfl rfl (by decide) ⟨Nat.le_refl _, Nat.le_refl _⟩ rfl (Nat.le_of_ble_eq_true rfl) (Nat.le_of_ble_eq_true rfl) (c_rgAdd (p := nxX t (p + j)) (s := nxX t (p + j + 1)) (k := k) hG.g_draft hs3.2.2.2.1 (fun J2 dJ f2 => ⟨rfl, rfl, ?_⟩))
    have hq1 : p + j + 2 + 1 ≤ q := hq1
    exact X.keep [0, 1, 2] rfl (l_rO1e (p := p) (e := eT (nxX t (p + j)) (nxX t (p + j + 1)) k) (l := l) (j := j) hG hx (hs3.ad hx f2 dJ (by omega) rfl) hb.1 (by show l.length + 1 + j ≤ q; omega) (fun J3 hs4 f3 => K1 J3 q _ (PD.tok hb h4 (tstF_3 hlt hsg hn)) hs4 (((rdP.nx.tr (rdP.ne fJ)).tr (rdP.rg f2)).tr f3)))
  · skip
    refine x_istore (pc := 161) (lv' := [(0, .ref rd), (1, .int (nI wi)), (2, .int (nI (wi + j))), (3, .int (nI (nxX t (p + j)))), (4, .int (nI (nxX t (p + j + 1)))), (5, .int (-1))]) dX3_readOne_161 (by decide) rfl ?_
    refine x_iload (pc := 163) dX3_readOne_163 rfl ?_
    refine x_iconst (pc := 165) (v := -1) dX3_readOne_165 (by decide) ?_
    refine x_icmp_ne_f (pc := 166) (tgt := 171) dX3_readOne_166 (by decide) (by decide) ?_
    refine x_iconst (pc := 169) (v := 0) dX3_readOne_169 (by decide) ?_
    refine x_ireturn (pc := 170) dX3_readOne_170 ⟨_, rfl, by decide⟩ ⟨Nat.le_refl _, Nat.le_refl _⟩ ?_
    exact K0 _ _ (PD.tbad hb h4 (tstF_2 hlt hsg hn)) hs2.x rdP.nx

set_option maxHeartbeats 4000000 in
set_option maxRecDepth 100000 in
theorem l_rO1b {T : xT} {n : Nat} {sh : Nat → Nat × Nat} {I : xI} {R : xR} {L : xL} {P : xPost} {lr nw im tr rd hu se ac M : Nat} (hG : GEO sh R lr nw im tr rd hu se ac M) {t : xX} (hx : XOK t) {p wi : Nat} {l : List (Nat × Nat × Nat)} {j : Nat} (hb : BGs (nxX t) wi p j) (h4 : wi + j = 4 ∨ nxX t (p + j) ≠ 40) (hlt : isLt (nxX t (p + j))) (hs : RDS I rd t (p + j) l) (hl : l.length ≤ p) (K1 : ∀ (J : xI) (q : Nat) (e : xCE), PD (nxX t) 0 wi p none (q, some e) → RDS J rd t q (l ++ e.1) → rdP rd I J → P (n, sh, 0, 0) J R L (some (.int 1))) (K0 : ∀ (J : xI) (q : Nat), PD (nxX t) 0 wi p none (q, none) → RDX J rd t q → rdP rd I J → P (n, sh, 0, 0) J R L (some (.int 0)))  :  X T zX3_readOne 11 0 0 P 101 [(0, .ref rd), (1, .int (nI wi)), (2, .int (nI (wi + j))), (3, .int (nI (nxX t (p + j))))] [] (n, sh, 0, 0) (I) R L := by
  have x100 := hx.1
  have l1 : p + j < t.1 := nxX_lt rfl (by rcases hlt with z | z | z | z | z <;> rw [z] <;> decide)
  have hs2 := hs.nx l1
  refine x_aload_n (pc := 101) dX3_readOne_101 rfl rfl ?_
  refine x_dup (pc := 102) dX3_readOne_102 rfl ?_
  refine x_get (pc := 103) dX3_readOne_103 kf_RX3_27 hG.g_rd rfl ?_
  rw [hs.2.1]
  refine x_iconst (pc := 106) (v := 1) dX3_readOne_106 (by decide) ?_
  refine x_iaddn (pc := 107) (a := (p + j)) (b := 1) dX3_readOne_107 ?_
  refine x_put (pc := 108) dX3_readOne_108 kf_RX3_27 hG.g_rd rfl (Or.inl kb_3_2) ?_
  refine x_aload_n (pc := 111) dX3_readOne_111 rfl rfl ?_
  refine x_getr (pc := 112) dX3_readOne_112 kf_RX3_14 hG.g_rd rfl hG.g_rd0 ?_
  refine x_aload_n (pc := 115) dX3_readOne_115 rfl rfl ?_
  refine x_get (pc := 116) dX3_readOne_116 kf_RX3_27 hG.g_rd rfl ?_
  refine x_callV (pc := 119) (As := [.int _]) dX3_readOne_119 km_X5_at kv_X5_at kl_RX3_45 hG.g_text.1 rfl rfl (by decide) ⟨Nat.le_refl _, Nat.le_refl _⟩ rfl (Nat.le_of_ble_eq_true rfl) (Nat.le_of_ble_eq_true rfl) (c_at hG.g_text (⟨rfl, rfl, ?_⟩))
  rw [hs2.2.1, nC_at hs2.1 hx (by omega)]
  refine x_istore (pc := 122) (lv' := [(0, .ref rd), (1, .int (nI wi)), (2, .int (nI (wi + j))), (3, .int (nI (nxX t (p + j)))), (4, .int (nC (nxX t (p + j + 1))))]) dX3_readOne_122 (by decide) rfl ?_
  refine x_iload (pc := 124) dX3_readOne_124 rfl ?_
  refine x_bipush (pc := 126) (v := 60) dX3_readOne_126 (by decide) ?_
  refine x_icmp_eq (pc := 128) (tgt := 147) dX3_readOne_128 (by decide) (fun c128 => ?_) (fun c128 => ?_)
  · skip
    have hsg : isSg (nxX t (p + j + 1)) := by
      have z : nxX t (p + j + 1) = 60 ∨ nxX t (p + j + 1) = 61 ∨ nxX t (p + j + 1) = 62 := by
        first
        | exact Or.inl ((nC_eq (by decide)).mp c128)
        | exact Or.inr (Or.inl ((nC_eq (by decide)).mp c135))
        | exact Or.inr (Or.inr ((nC_eq (by decide)).mp c142))
      show 60 ≤ nxX t (p + j + 1) ∧ nxX t (p + j + 1) ≤ 62
      omega
    have h62 : 60 ≤ nxX t (p + j + 1) ∧ nxX t (p + j + 1) ≤ 62 := hsg
    rw [nC_lit (show nxX t (p + j + 1) < 256 by omega)]
    exact X.keep [0, 1, 2, 3, 4] rfl (l_rO1c hG hx hb h4 hlt hsg hs2 hl (fun J q e g1 g2 g3 => K1 J q e g1 g2 (rdP.nx.tr g3)) (fun J q g1 g2 g3 => K0 J q g1 g2 (rdP.nx.tr g3)))
  · skip
    refine x_iload (pc := 131) dX3_readOne_131 rfl ?_
    refine x_bipush (pc := 133) (v := 61) dX3_readOne_133 (by decide) ?_
    refine x_icmp_eq (pc := 135) (tgt := 147) dX3_readOne_135 (by decide) (fun c135 => ?_) (fun c135 => ?_)
    · skip
      have hsg : isSg (nxX t (p + j + 1)) := by
        have z : nxX t (p + j + 1) = 60 ∨ nxX t (p + j + 1) = 61 ∨ nxX t (p + j + 1) = 62 := by
          first
          | exact Or.inl ((nC_eq (by decide)).mp c128)
          | exact Or.inr (Or.inl ((nC_eq (by decide)).mp c135))
          | exact Or.inr (Or.inr ((nC_eq (by decide)).mp c142))
        show 60 ≤ nxX t (p + j + 1) ∧ nxX t (p + j + 1) ≤ 62
        omega
      have h62 : 60 ≤ nxX t (p + j + 1) ∧ nxX t (p + j + 1) ≤ 62 := hsg
      rw [nC_lit (show nxX t (p + j + 1) < 256 by omega)]
      exact X.keep [0, 1, 2, 3, 4] rfl (l_rO1c hG hx hb h4 hlt hsg hs2 hl (fun J q e g1 g2 g3 => K1 J q e g1 g2 (rdP.nx.tr g3)) (fun J q g1 g2 g3 => K0 J q g1 g2 (rdP.nx.tr g3)))
    · skip
      refine x_iload (pc := 138) dX3_readOne_138 rfl ?_
      refine x_bipush (pc := 140) (v := 62) dX3_readOne_140 (by decide) ?_
      refine x_icmp_eq (pc := 142) (tgt := 147) dX3_readOne_142 (by decide) (fun c142 => ?_) (fun c142 => ?_)
      · skip
        have hsg : isSg (nxX t (p + j + 1)) := by
          have z : nxX t (p + j + 1) = 60 ∨ nxX t (p + j + 1) = 61 ∨ nxX t (p + j + 1) = 62 := by
            first
            | exact Or.inl ((nC_eq (by decide)).mp c128)
            | exact Or.inr (Or.inl ((nC_eq (by decide)).mp c135))
            | exact Or.inr (Or.inr ((nC_eq (by decide)).mp c142))
          show 60 ≤ nxX t (p + j + 1) ∧ nxX t (p + j + 1) ≤ 62
          omega
        have h62 : 60 ≤ nxX t (p + j + 1) ∧ nxX t (p + j + 1) ≤ 62 := hsg
        rw [nC_lit (show nxX t (p + j + 1) < 256 by omega)]
        exact X.keep [0, 1, 2, 3, 4] rfl (l_rO1c hG hx hb h4 hlt hsg hs2 hl (fun J q e g1 g2 g3 => K1 J q e g1 g2 (rdP.nx.tr g3)) (fun J q g1 g2 g3 => K0 J q g1 g2 (rdP.nx.tr g3)))
      · skip
        refine x_iconst (pc := 145) (v := 0) dX3_readOne_145 (by decide) ?_
        refine x_ireturn (pc := 146) dX3_readOne_146 ⟨_, rfl, by decide⟩ ⟨Nat.le_refl _, Nat.le_refl _⟩ ?_
        exact K0 _ _ (PD.tbad hb h4 (tstF_1 hlt (fun q => by
          have q : 60 ≤ nxX t (p + j + 1) ∧ nxX t (p + j + 1) ≤ 62 := q
          have z : nxX t (p + j + 1) = 60 ∨ nxX t (p + j + 1) = 61 ∨ nxX t (p + j + 1) = 62 := by omega
          rcases z with z | z | z
          · exact c128 ((nC_eq (by decide)).mpr z)
          · exact c135 ((nC_eq (by decide)).mpr z)
          · exact c142 ((nC_eq (by decide)).mpr z)))) hs2.x rdP.nx

set_option maxHeartbeats 4000000 in
set_option maxRecDepth 100000 in
theorem l_rO1a {T : xT} {n : Nat} {sh : Nat → Nat × Nat} {I : xI} {R : xR} {L : xL} {P : xPost} {lr nw im tr rd hu se ac M : Nat} (hG : GEO sh R lr nw im tr rd hu se ac M) {t : xX} (hx : XOK t) {p wi : Nat} {l : List (Nat × Nat × Nat)} {j : Nat} (hb : BGs (nxX t) wi p j) (h4 : wi + j = 4 ∨ nxX t (p + j) ≠ 40) (hs : RDS I rd t (p + j) l) (hl : l.length ≤ p) (K1 : ∀ (J : xI) (q : Nat) (e : xCE), PD (nxX t) 0 wi p none (q, some e) → RDS J rd t q (l ++ e.1) → rdP rd I J → P (n, sh, 0, 0) J R L (some (.int 1))) (K0 : ∀ (J : xI) (q : Nat), PD (nxX t) 0 wi p none (q, none) → RDX J rd t q → rdP rd I J → P (n, sh, 0, 0) J R L (some (.int 0)))  :  X T zX3_readOne 11 0 0 P 57 [(0, .ref rd), (1, .int (nI wi)), (2, .int (nI (wi + j)))] [] (n, sh, 0, 0) (I) R L := by
  have x100 := hx.1
  refine x_aload_n (pc := 57) dX3_readOne_57 rfl rfl ?_
  refine x_getr (pc := 58) dX3_readOne_58 kf_RX3_14 hG.g_rd rfl hG.g_rd0 ?_
  refine x_aload_n (pc := 61) dX3_readOne_61 rfl rfl ?_
  refine x_get (pc := 62) dX3_readOne_62 kf_RX3_27 hG.g_rd rfl ?_
  refine x_callV (pc := 65) (As := [.int _]) dX3_readOne_65 km_X5_at kv_X5_at kl_RX3_45 hG.g_text.1 rfl rfl (by decide) ⟨Nat.le_refl _, Nat.le_refl _⟩ rfl (Nat.le_of_ble_eq_true rfl) (Nat.le_of_ble_eq_true rfl) (c_at hG.g_text (⟨rfl, rfl, ?_⟩))
  rw [hs.2.1, nC_at hs.1 hx (by have := hs.2.2.1; omega)]
  refine x_istore_n (pc := 68) (lv' := [(0, .ref rd), (1, .int (nI wi)), (2, .int (nI (wi + j))), (3, .int (nC (nxX t (p + j))))]) dX3_readOne_68 rfl (by decide) rfl ?_
  refine x_iload_n (pc := 69) dX3_readOne_69 rfl rfl ?_
  refine x_bipush (pc := 70) (v := 110) dX3_readOne_70 (by decide) ?_
  refine x_icmp_eq (pc := 72) (tgt := 101) dX3_readOne_72 (by decide) (fun c72 => ?_) (fun c72 => ?_)
  · skip
    have hlt : isLt (nxX t (p + j)) := by
      first
      | exact Or.inl ((nC_eq (by decide)).mp c72)
      | exact Or.inr (Or.inl ((nC_eq (by decide)).mp c78))
      | exact Or.inr (Or.inr (Or.inl ((nC_eq (by decide)).mp c84)))
      | exact Or.inr (Or.inr (Or.inr (Or.inl ((nC_eq (by decide)).mp c90))))
      | exact Or.inr (Or.inr (Or.inr (Or.inr ((nC_eq (by decide)).mp c96))))
    have h128 : nxX t (p + j) < 256 := by rcases hlt with z | z | z | z | z <;> rw [z] <;> decide
    rw [nC_lit h128]
    exact X.keep [0, 1, 2, 3] rfl (l_rO1b hG hx hb h4 hlt hs hl K1 K0)
  · skip
    refine x_iload_n (pc := 75) dX3_readOne_75 rfl rfl ?_
    refine x_bipush (pc := 76) (v := 104) dX3_readOne_76 (by decide) ?_
    refine x_icmp_eq (pc := 78) (tgt := 101) dX3_readOne_78 (by decide) (fun c78 => ?_) (fun c78 => ?_)
    · skip
      have hlt : isLt (nxX t (p + j)) := by
        first
        | exact Or.inl ((nC_eq (by decide)).mp c72)
        | exact Or.inr (Or.inl ((nC_eq (by decide)).mp c78))
        | exact Or.inr (Or.inr (Or.inl ((nC_eq (by decide)).mp c84)))
        | exact Or.inr (Or.inr (Or.inr (Or.inl ((nC_eq (by decide)).mp c90))))
        | exact Or.inr (Or.inr (Or.inr (Or.inr ((nC_eq (by decide)).mp c96))))
      have h128 : nxX t (p + j) < 256 := by rcases hlt with z | z | z | z | z <;> rw [z] <;> decide
      rw [nC_lit h128]
      exact X.keep [0, 1, 2, 3] rfl (l_rO1b hG hx hb h4 hlt hs hl K1 K0)
    · skip
      refine x_iload_n (pc := 81) dX3_readOne_81 rfl rfl ?_
      refine x_bipush (pc := 82) (v := 98) dX3_readOne_82 (by decide) ?_
      refine x_icmp_eq (pc := 84) (tgt := 101) dX3_readOne_84 (by decide) (fun c84 => ?_) (fun c84 => ?_)
      · skip
        have hlt : isLt (nxX t (p + j)) := by
          first
          | exact Or.inl ((nC_eq (by decide)).mp c72)
          | exact Or.inr (Or.inl ((nC_eq (by decide)).mp c78))
          | exact Or.inr (Or.inr (Or.inl ((nC_eq (by decide)).mp c84)))
          | exact Or.inr (Or.inr (Or.inr (Or.inl ((nC_eq (by decide)).mp c90))))
          | exact Or.inr (Or.inr (Or.inr (Or.inr ((nC_eq (by decide)).mp c96))))
        have h128 : nxX t (p + j) < 256 := by rcases hlt with z | z | z | z | z <;> rw [z] <;> decide
        rw [nC_lit h128]
        exact X.keep [0, 1, 2, 3] rfl (l_rO1b hG hx hb h4 hlt hs hl K1 K0)
      · skip
        refine x_iload_n (pc := 87) dX3_readOne_87 rfl rfl ?_
        refine x_bipush (pc := 88) (v := 99) dX3_readOne_88 (by decide) ?_
        refine x_icmp_eq (pc := 90) (tgt := 101) dX3_readOne_90 (by decide) (fun c90 => ?_) (fun c90 => ?_)
        · skip
          have hlt : isLt (nxX t (p + j)) := by
            first
            | exact Or.inl ((nC_eq (by decide)).mp c72)
            | exact Or.inr (Or.inl ((nC_eq (by decide)).mp c78))
            | exact Or.inr (Or.inr (Or.inl ((nC_eq (by decide)).mp c84)))
            | exact Or.inr (Or.inr (Or.inr (Or.inl ((nC_eq (by decide)).mp c90))))
            | exact Or.inr (Or.inr (Or.inr (Or.inr ((nC_eq (by decide)).mp c96))))
          have h128 : nxX t (p + j) < 256 := by rcases hlt with z | z | z | z | z <;> rw [z] <;> decide
          rw [nC_lit h128]
          exact X.keep [0, 1, 2, 3] rfl (l_rO1b hG hx hb h4 hlt hs hl K1 K0)
        · skip
          refine x_iload_n (pc := 93) dX3_readOne_93 rfl rfl ?_
          refine x_bipush (pc := 94) (v := 116) dX3_readOne_94 (by decide) ?_
          refine x_icmp_eq (pc := 96) (tgt := 101) dX3_readOne_96 (by decide) (fun c96 => ?_) (fun c96 => ?_)
          · skip
            have hlt : isLt (nxX t (p + j)) := by
              first
              | exact Or.inl ((nC_eq (by decide)).mp c72)
              | exact Or.inr (Or.inl ((nC_eq (by decide)).mp c78))
              | exact Or.inr (Or.inr (Or.inl ((nC_eq (by decide)).mp c84)))
              | exact Or.inr (Or.inr (Or.inr (Or.inl ((nC_eq (by decide)).mp c90))))
              | exact Or.inr (Or.inr (Or.inr (Or.inr ((nC_eq (by decide)).mp c96))))
            have h128 : nxX t (p + j) < 256 := by rcases hlt with z | z | z | z | z <;> rw [z] <;> decide
            rw [nC_lit h128]
            exact X.keep [0, 1, 2, 3] rfl (l_rO1b hG hx hb h4 hlt hs hl K1 K0)
          · skip
            refine x_iconst (pc := 99) (v := 0) dX3_readOne_99 (by decide) ?_
            refine x_ireturn (pc := 100) dX3_readOne_100 ⟨_, rfl, by decide⟩ ⟨Nat.le_refl _, Nat.le_refl _⟩ ?_
            exact K0 _ _ (PD.tbad hb h4 (tstF_0 (fun q => by
              rcases q with z | z | z | z | z
              · exact c72 ((nC_eq (by decide)).mpr z)
              · exact c78 ((nC_eq (by decide)).mpr z)
              · exact c84 ((nC_eq (by decide)).mpr z)
              · exact c90 ((nC_eq (by decide)).mpr z)
              · exact c96 ((nC_eq (by decide)).mpr z)))) hs.x rdP.rf

set_option maxHeartbeats 4000000 in
set_option maxRecDepth 100000 in
theorem l_rO1d {T : xT} {n : Nat} {sh : Nat → Nat × Nat} {I : xI} {R : xR} {L : xL} {P : xPost} {lr nw im tr rd hu se ac M : Nat} (hG : GEO sh R lr nw im tr rd hu se ac M) {t : xX} (hx : XOK t) {p wi : Nat} {l : List (Nat × Nat × Nat)} {j : Nat} (hb : BGs (nxX t) wi p j) (hs : RDS I rd t (p + j) l) (hl : l.length ≤ p) (hk : 1 ≤ wi) (K1 : ∀ (J : xI) (q : Nat) (e : xCE), PD (nxX t) 0 wi p none (q, some e) → RDS J rd t q (l ++ e.1) → rdP rd I J → P (n, sh, 0, 0) J R L (some (.int 1))) (K0 : ∀ (J : xI) (q : Nat), PD (nxX t) 0 wi p none (q, none) → RDX J rd t q → rdP rd I J → P (n, sh, 0, 0) J R L (some (.int 0)))  :  X T zX3_readOne 11 0 0 P 22 [(0, .ref rd), (1, .int (nI wi)), (2, .int (nI (wi + j)))] [] (n, sh, 0, 0) (I) R L := by
  have hb1 := hb.1
  refine x_iload_n (pc := 22) dX3_readOne_22 rfl rfl ?_
  refine x_iconst (pc := 23) (v := 4) dX3_readOne_23 (by decide) ?_
  refine x_icmpn_ge (pc := 24) (tgt := 57) (a := (wi + j)) (b := 4) dX3_readOne_24 (by decide) (by omega) (by decide) (fun c24 => ?_) (fun c24 => ?_)
  · skip
    first
    | exact X.keep [0, 1, 2] rfl (l_rO1a hG hx hb (Or.inr hc) hs hl K1 K0)
    | exact X.keep [0, 1, 2] rfl (l_rO1a hG hx hb (Or.inl (by omega)) hs hl K1 K0)
  · skip
    refine x_aload_n (pc := 27) dX3_readOne_27 rfl rfl ?_
    refine x_bipush (pc := 28) (v := 40) dX3_readOne_28 (by decide) ?_
    refine x_callV (pc := 30) (As := [.int _]) dX3_readOne_30 km_X3_accept kv_X3_accept kl_RX3_34 hG.g_rd rfl rfl (by decide) ⟨Nat.le_refl _, Nat.le_refl _⟩ rfl (Nat.le_of_ble_eq_true rfl) (Nat.le_of_ble_eq_true rfl) (c_accept (c := 40) hG hs.1 hx hs.2.1 hs.2.2.1 (by decide) (fun hc hlt => ⟨rfl, rfl, ?_⟩) (fun hc => ⟨rfl, rfl, ?_⟩))
    · skip
      refine x_if_eq_f (pc := 33) (tgt := 57) dX3_readOne_33 (by decide) (by decide) ?_
      refine x_aload_n (pc := 36) dX3_readOne_36 rfl rfl ?_
      refine x_iload_n (pc := 37) dX3_readOne_37 rfl rfl ?_
      refine x_iconst (pc := 38) (v := 1) dX3_readOne_38 (by decide) ?_
      refine x_iaddn (pc := 39) (a := (wi + j)) (b := 1) dX3_readOne_39 ?_
      refine x_callV (pc := 40) (As := [.int _]) dX3_readOne_40 km_X3_readEither kv_X3_readEither kl_RX3_66 hG.g_rd rfl rfl (by decide) ⟨Nat.le_refl _, Nat.le_refl _⟩ rfl (Nat.le_of_ble_eq_true rfl) (Nat.le_of_ble_eq_true rfl) (c_readEither2 (wi := wi + j + 1) hG hx (hs.nx hlt) (by omega) (by omega) (fun J q e h1 h2 fJ => ⟨rfl, rfl, ?_⟩) (fun J q h1 h2 fJ => ⟨rfl, rfl, ?_⟩))
      · skip
        refine x_if_eq_f (pc := 43) (tgt := 55) dX3_readOne_43 (by decide) (by decide) ?_
        refine x_aload_n (pc := 46) dX3_readOne_46 rfl rfl ?_
        refine x_bipush (pc := 47) (v := 41) dX3_readOne_47 (by decide) ?_
        refine x_callV (pc := 49) (As := [.int _]) dX3_readOne_49 km_X3_accept kv_X3_accept kl_RX3_34 hG.g_rd rfl rfl (by decide) ⟨Nat.le_refl _, Nat.le_refl _⟩ rfl (Nat.le_of_ble_eq_true rfl) (Nat.le_of_ble_eq_true rfl) (c_accept (c := 41) hG h2.1 hx h2.2.1 h2.2.2.1 (by decide) (fun hc2 hlt2 => ⟨rfl, rfl, ?_⟩) (fun hc2 => ⟨rfl, rfl, ?_⟩))
        · skip
          refine x_if_ne_t (pc := 52) (tgt := 183) dX3_readOne_52 (by decide) (by decide) ?_
          have g3 : p + j + 1 + e.1.length ≤ q := (pd_gd h1 e rfl).2.2.1
          exact X.keep [0, 1, 2] rfl (l_rO1e (p := p) (j := j) (e := e) hG hx (h2.nx hlt2) hb.1 (by omega) (fun J3 hs4 f3 => K1 J3 (q + 1) _ (PD.pok hb (by omega) hc h1 hc2) hs4 (((rdP.nx.tr fJ).tr rdP.nx).tr f3)))
        · skip
          refine x_if_ne_f (pc := 52) (tgt := 183) dX3_readOne_52 (by decide) (by decide) ?_
          refine x_iconst (pc := 55) (v := 0) dX3_readOne_55 (by decide) ?_
          refine x_ireturn (pc := 56) dX3_readOne_56 ⟨_, rfl, by decide⟩ ⟨Nat.le_refl _, Nat.le_refl _⟩ ?_
          first
          | exact K0 _ _ (PD.popen hb (by omega) hc h1 hc2) h2.x (rdP.nx.tr fJ)
          | exact K0 _ _ (PD.pbad hb (by omega) hc h1) h2 (rdP.nx.tr fJ)
      · skip
        refine x_if_eq_t (pc := 43) (tgt := 55) dX3_readOne_43 (by decide) (by decide) ?_
        refine x_iconst (pc := 55) (v := 0) dX3_readOne_55 (by decide) ?_
        refine x_ireturn (pc := 56) dX3_readOne_56 ⟨_, rfl, by decide⟩ ⟨Nat.le_refl _, Nat.le_refl _⟩ ?_
        first
        | exact K0 _ _ (PD.popen hb (by omega) hc h1 hc2) h2.x (rdP.nx.tr fJ)
        | exact K0 _ _ (PD.pbad hb (by omega) hc h1) h2 (rdP.nx.tr fJ)
    · skip
      refine x_if_eq_t (pc := 33) (tgt := 57) dX3_readOne_33 (by decide) (by decide) ?_
      first
      | exact X.keep [0, 1, 2] rfl (l_rO1a hG hx hb (Or.inr hc) hs hl K1 K0)
      | exact X.keep [0, 1, 2] rfl (l_rO1a hG hx hb (Or.inl (by omega)) hs hl K1 K0)

set_option maxHeartbeats 4000000 in
set_option maxRecDepth 100000 in
theorem c_readOne1 {T : xT} {n : Nat} {sh : Nat → Nat × Nat} {I : xI} {R : xR} {L : xL} {P : xPost} {lr nw im tr rd hu se ac M : Nat} (hG : GEO sh R lr nw im tr rd hu se ac M) {t : xX} (hx : XOK t) {p wi : Nat} {l : List (Nat × Nat × Nat)} (hs : RDS I rd t p l) (hk : 1 ≤ wi) (hw4 : wi ≤ 4) (K1 : ∀ (J : xI) (q : Nat) (e : xCE), PD (nxX t) 0 wi p none (q, some e) → RDS J rd t q (l ++ e.1) → rdP rd I J → P (n, sh, 0, 0) J R L (some (.int 1))) (K0 : ∀ (J : xI) (q : Nat), PD (nxX t) 0 wi p none (q, none) → RDX J rd t q → rdP rd I J → P (n, sh, 0, 0) J R L (some (.int 0)))  : XM T zX3_readOne 11 [.ref rd, .int (nI wi)] n sh I R L P := by
  refine x_iload_n (pc := 0) dX3_readOne_0 rfl rfl ?_
  refine x_istore_n (pc := 1) (lv' := [(0, .ref rd), (1, .int (nI wi)), (2, .int (nI wi))]) dX3_readOne_1 rfl (by decide) rfl ?_
  exact X.keep [0, 1, 2] rfl (l_rO1 hG hx hw4 (fun J j hb hs2 fj => l_rO1d hG hx hb hs2 hs.2.2.2.2 hk (fun J2 q e g1 g2 g3 => K1 J2 q e g1 g2 (fj.tr g3)) (fun J2 q g1 g2 g3 => K0 J2 q g1 g2 (fj.tr g3))) (4 - wi) 0 (by omega) I hs (fun k q => absurd q (by omega)) rdP.rf)

set_option maxHeartbeats 4000000 in
set_option maxRecDepth 100000 in
theorem l_rB1z {T : xT} {n : Nat} {sh : Nat → Nat × Nat} {I : xI} {R : xR} {L : xL} {P : xPost} {lr nw im tr rd hu se ac M : Nat} (hG : GEO sh R lr nw im tr rd hu se ac M) {t : xX} (hx : XOK t) {p wi : Nat} {l : List (Nat × Nat × Nat)} {i : Nat} (hi : i ≤ 100) (K : P (n, sh, 0, 0) I R L (some (.int 0)))  :  X T zX3_readBoth 12 0 0 P 8 [(0, .ref rd), (1, .int (nI wi)), (2, .int 0), (3, .int (nI i))] [] (n, sh, 0, 0) (I) R L := by
  refine x_iload_n (pc := 8) dX3_readBoth_8 rfl rfl ?_
  refine x_bipush (pc := 9) (v := 100) dX3_readBoth_9 (by decide) ?_
  refine x_icmpn_ge (pc := 11) (tgt := 50) (a := i) (b := 100) dX3_readBoth_11 (by decide) (by omega) (by decide) (fun c11 => ?_) (fun c11 => ?_)
  · skip
    refine x_iload_n (pc := 50) dX3_readBoth_50 rfl rfl ?_
    refine x_ireturn (pc := 51) dX3_readBoth_51 ⟨_, rfl, by decide⟩ ⟨Nat.le_refl _, Nat.le_refl _⟩ ?_
    exact K
  · skip
    refine x_iload_n (pc := 14) dX3_readBoth_14 rfl rfl ?_
    refine x_if_eq_t (pc := 15) (tgt := 50) dX3_readBoth_15 (by decide) (by decide) ?_
    refine x_iload_n (pc := 50) dX3_readBoth_50 rfl rfl ?_
    refine x_ireturn (pc := 51) dX3_readBoth_51 ⟨_, rfl, by decide⟩ ⟨Nat.le_refl _, Nat.le_refl _⟩ ?_
    exact K

set_option maxHeartbeats 4000000 in
set_option maxRecDepth 100000 in
theorem l_rB1 {T : xT} {n : Nat} {sh : Nat → Nat × Nat} {I : xI} {R : xR} {L : xL} {P : xPost} {lr nw im tr rd hu se ac M : Nat} (hG : GEO sh R lr nw im tr rd hu se ac M) {t : xX} (hx : XOK t) {p wi : Nat} {l : List (Nat × Nat × Nat)} (hk : 1 ≤ wi) (hw4 : wi ≤ 4) (K1 : ∀ (J : xI) (q : Nat) (e : xCE), PD (nxX t) 1 wi p none (q, some e) → nxX t q ≠ 38 → RDS J rd t q (l ++ e.1) → rdP rd I J → P (n, sh, 0, 0) J R L (some (.int 1))) (K0 : ∀ (J : xI) (q : Nat), PD (nxX t) 1 wi p none (q, none) → RDX J rd t q → rdP rd I J → P (n, sh, 0, 0) J R L (some (.int 0)))  : ∀ (w i : Nat), i + w = 100 → ∀ (J : xI) (q : Nat) (e : xCE), RDS J rd t q (l ++ e.1) → i ≤ q → (∀ r, PD (nxX t) 2 wi q (some e) r → PD (nxX t) 1 wi p none r) → rdP rd I J → X T zX3_readBoth 12 0 0 P 8 [(0, .ref rd), (1, .int (nI wi)), (2, .int 1), (3, .int (nI i))] [] (n, sh, 0, 0) (J) R L := by
  have x100 := hx.1
  intro w
  induction w with
  | zero =>
    intro i hw J q e hs hiq hct fj
    have hz : i = 100 := by omega
    refine x_iload_n (pc := 8) dX3_readBoth_8 rfl rfl ?_
    refine x_bipush (pc := 9) (v := 100) dX3_readBoth_9 (by decide) ?_
    refine x_icmpn_ge_t (pc := 11) (tgt := 50) (a := i) (b := 100) dX3_readBoth_11 (by decide) (by omega) (by decide) (by omega) ?_
    refine x_iload_n (pc := 50) dX3_readBoth_50 rfl rfl ?_
    refine x_ireturn (pc := 51) dX3_readBoth_51 ⟨_, rfl, by decide⟩ ⟨Nat.le_refl _, Nat.le_refl _⟩ ?_
    have hn : nxX t q ≠ 38 := by
      show (if q < t.1 then t.2 q else 256) ≠ 38
      rw [if_neg (by omega)]
      decide
    exact K1 J q e (hct _ (PD.Lend hn)) hn hs fj
  | succ w ih =>
    intro i hw J q e hs hiq hct fj
    have hi : i < 100 := by omega
    refine x_iload_n (pc := 8) dX3_readBoth_8 rfl rfl ?_
    refine x_bipush (pc := 9) (v := 100) dX3_readBoth_9 (by decide) ?_
    refine x_icmpn_ge_f (pc := 11) (tgt := 50) (a := i) (b := 100) dX3_readBoth_11 (by decide) (by omega) (by decide) (by omega) ?_
    refine x_iload_n (pc := 14) dX3_readBoth_14 rfl rfl ?_
    refine x_if_eq_f (pc := 15) (tgt := 50) dX3_readBoth_15 (by decide) (by decide) ?_
    refine x_aload_n (pc := 18) dX3_readBoth_18 rfl rfl ?_
    refine x_bipush (pc := 19) (v := 38) dX3_readBoth_19 (by decide) ?_
    refine x_callV (pc := 21) (As := [.int _]) dX3_readBoth_21 km_X3_accept kv_X3_accept kl_RX3_34 hG.g_rd rfl rfl (by decide) ⟨Nat.le_refl _, Nat.le_refl _⟩ rfl (Nat.le_of_ble_eq_true rfl) (Nat.le_of_ble_eq_true rfl) (c_accept (c := 38) hG hs.1 hx hs.2.1 hs.2.2.1 (by decide) (fun hc hlt => ⟨rfl, rfl, ?_⟩) (fun hc => ⟨rfl, rfl, ?_⟩))
    · skip
      refine x_if_eq_f (pc := 24) (tgt := 50) dX3_readBoth_24 (by decide) (by decide) ?_
      refine x_aload_n (pc := 27) dX3_readBoth_27 rfl rfl ?_
      refine x_iload_n (pc := 28) dX3_readBoth_28 rfl rfl ?_
      refine x_callV (pc := 29) (As := [.int _]) dX3_readBoth_29 km_X3_readOne kv_X3_readOne kl_RX3_76 hG.g_rd rfl rfl (by decide) ⟨Nat.le_refl _, Nat.le_refl _⟩ rfl (Nat.le_of_ble_eq_true rfl) (Nat.le_of_ble_eq_true rfl) (c_readOne1 hG hx (hs.nx hlt) hk hw4 (fun J2 q2 e2 h1 h2 f2 => ⟨rfl, rfl, ?_⟩) (fun J2 q2 h1 h2 f2 => ⟨rfl, rfl, ?_⟩))
      · skip
        refine x_istore_n (pc := 32) (lv' := [(0, .ref rd), (1, .int (nI wi)), (2, .int 1), (3, .int (nI i))]) dX3_readBoth_32 rfl (by decide) rfl ?_
        refine x_aload_n (pc := 33) dX3_readBoth_33 rfl rfl ?_
        refine x_getr (pc := 34) dX3_readBoth_34 kf_RX3_23 hG.g_rd rfl hG.g_rd1 ?_
        refine x_bipush (pc := 37) (v := 38) dX3_readBoth_37 (by decide) ?_
        refine x_iconst (pc := 39) (v := 0) dX3_readBoth_39 (by decide) ?_
        refine x_iconst (pc := 40) (v := 0) dX3_readBoth_40 (by decide) ?_
        refine x_callV (pc := 41) (As := [.int _, .int _, .int _]) dX3_readBoth_41 km_X4_add kv_X4_add kl_RX3_69 hG.g_draft.1 rfl rfl (by decide) ⟨Nat.le_refl _, Nat.le_refl _⟩ rfl (Nat.le_of_ble_eq_true rfl) (Nat.le_of_ble_eq_true rfl) (c_rgAdd (p := 38) (s := 0) (k := 0) hG.g_draft h2.2.2.2.1 (fun J3 d3 f3 => ⟨rfl, rfl, ?_⟩))
        refine x_iinc (pc := 44) (v := nI (i + 1)) (lv' := [(0, .ref rd), (1, .int (nI wi)), (2, .int 1), (3, .int (nI (i + 1)))]) dX3_readBoth_44 rfl (nI_1 _) (by decide) rfl ?_
        refine x_goto (pc := 47) (tgt := 8) dX3_readBoth_47 (by decide) ?_
        have g3 : q + 1 + e2.1.length ≤ q2 := (pd_gd h1 e2 rfl).2.2.1
        have hll := hs.2.2.2.2
        refine ih (i + 1) (by omega) J3 q2 (eA e e2) (h2.ad hx f3 d3 (by rw [List.length_append]; omega) ?_) (by omega) (fun r hr => hct r (PD.Lgo hc h1 hr)) (((fj.tr rdP.nx).tr f2).tr (rdP.rg f3))
        show l ++ (e.1 ++ e2.1 ++ [(38, 0, 0)]) = l ++ e.1 ++ e2.1 ++ [(38, 0, 0)]
        rw [← List.append_assoc, ← List.append_assoc]
      · skip
        refine x_istore_n (pc := 32) (lv' := [(0, .ref rd), (1, .int (nI wi)), (2, .int 0), (3, .int (nI i))]) dX3_readBoth_32 rfl (by decide) rfl ?_
        refine x_aload_n (pc := 33) dX3_readBoth_33 rfl rfl ?_
        refine x_getr (pc := 34) dX3_readBoth_34 kf_RX3_23 hG.g_rd rfl hG.g_rd1 ?_
        refine x_bipush (pc := 37) (v := 38) dX3_readBoth_37 (by decide) ?_
        refine x_iconst (pc := 39) (v := 0) dX3_readBoth_39 (by decide) ?_
        refine x_iconst (pc := 40) (v := 0) dX3_readBoth_40 (by decide) ?_
        refine x_callV (pc := 41) (As := [.int _, .int _, .int _]) dX3_readBoth_41 km_X4_add kv_X4_add kl_RX3_69 hG.g_draft.1 rfl rfl (by decide) ⟨Nat.le_refl _, Nat.le_refl _⟩ rfl (Nat.le_of_ble_eq_true rfl) (Nat.le_of_ble_eq_true rfl) (c_rgAdd (p := 38) (s := 0) (k := 0) hG.g_draft h2.2.2.2.choose_spec (fun J3 d3 f3 => ⟨rfl, rfl, ?_⟩))
        refine x_iinc (pc := 44) (v := nI (i + 1)) (lv' := [(0, .ref rd), (1, .int (nI wi)), (2, .int 0), (3, .int (nI (i + 1)))]) dX3_readBoth_44 rfl (nI_1 _) (by decide) rfl ?_
        refine x_goto (pc := 47) (tgt := 8) dX3_readBoth_47 (by decide) ?_
        exact l_rB1z hG hx (p := p) (l := l) (t := t) (wi := wi) (i := i + 1) (by omega) (K0 J3 q2 (hct _ (PD.Lbad hc h1)) (h2.ad f3 d3) (((fj.tr rdP.nx).tr f2).tr (rdP.rg f3)))
    · skip
      refine x_if_eq_t (pc := 24) (tgt := 50) dX3_readBoth_24 (by decide) (by decide) ?_
      refine x_iload_n (pc := 50) dX3_readBoth_50 rfl rfl ?_
      refine x_ireturn (pc := 51) dX3_readBoth_51 ⟨_, rfl, by decide⟩ ⟨Nat.le_refl _, Nat.le_refl _⟩ ?_
      have hn : nxX t q ≠ 38 := hc
      exact K1 J q e (hct _ (PD.Lend hn)) hn hs fj

set_option maxHeartbeats 4000000 in
set_option maxRecDepth 100000 in
theorem c_readBoth1 {T : xT} {n : Nat} {sh : Nat → Nat × Nat} {I : xI} {R : xR} {L : xL} {P : xPost} {lr nw im tr rd hu se ac M : Nat} (hG : GEO sh R lr nw im tr rd hu se ac M) {t : xX} (hx : XOK t) {p wi : Nat} {l : List (Nat × Nat × Nat)} (hs : RDS I rd t p l) (hk : 1 ≤ wi) (hw4 : wi ≤ 4) (K1 : ∀ (J : xI) (q : Nat) (e : xCE), PD (nxX t) 1 wi p none (q, some e) → nxX t q ≠ 38 → RDS J rd t q (l ++ e.1) → rdP rd I J → P (n, sh, 0, 0) J R L (some (.int 1))) (K0 : ∀ (J : xI) (q : Nat), PD (nxX t) 1 wi p none (q, none) → RDX J rd t q → rdP rd I J → P (n, sh, 0, 0) J R L (some (.int 0)))  : XM T zX3_readBoth 12 [.ref rd, .int (nI wi)] n sh I R L P := by
  refine x_aload_n (pc := 0) dX3_readBoth_0 rfl rfl ?_
  refine x_iload_n (pc := 1) dX3_readBoth_1 rfl rfl ?_
  refine x_callV (pc := 2) (As := [.int _]) dX3_readBoth_2 km_X3_readOne kv_X3_readOne kl_RX3_76 hG.g_rd rfl rfl (by decide) ⟨Nat.le_refl _, Nat.le_refl _⟩ rfl (Nat.le_of_ble_eq_true rfl) (Nat.le_of_ble_eq_true rfl) (c_readOne1 hG hx hs hk hw4 (fun J q e h1 h2 f2 => ⟨rfl, rfl, ?_⟩) (fun J q h1 h2 f2 => ⟨rfl, rfl, ?_⟩))
  · skip
    refine x_istore_n (pc := 5) (lv' := [(0, .ref rd), (1, .int (nI wi)), (2, .int 1)]) dX3_readBoth_5 rfl (by decide) rfl ?_
    refine x_iconst (pc := 6) (v := 0) dX3_readBoth_6 (by decide) ?_
    refine x_istore_n (pc := 7) (lv' := [(0, .ref rd), (1, .int (nI wi)), (2, .int 1), (3, .int 0)]) dX3_readBoth_7 rfl (by decide) rfl ?_
    exact l_rB1 hG hx hk hw4 K1 K0 100 0 (by omega) J q e h2 (by omega) (fun r hr => PD.Tgo h1 hr) f2
  · skip
    refine x_istore_n (pc := 5) (lv' := [(0, .ref rd), (1, .int (nI wi)), (2, .int 0)]) dX3_readBoth_5 rfl (by decide) rfl ?_
    refine x_iconst (pc := 6) (v := 0) dX3_readBoth_6 (by decide) ?_
    refine x_istore_n (pc := 7) (lv' := [(0, .ref rd), (1, .int (nI wi)), (2, .int 0), (3, .int 0)]) dX3_readBoth_7 rfl (by decide) rfl ?_
    exact l_rB1z hG hx (p := p) (l := l) (t := t) (wi := wi) (i := 0) (by omega) (K0 J q (PD.Tbad h1) h2 f2)

set_option maxHeartbeats 4000000 in
set_option maxRecDepth 100000 in
theorem l_rE1z {T : xT} {n : Nat} {sh : Nat → Nat × Nat} {I : xI} {R : xR} {L : xL} {P : xPost} {lr nw im tr rd hu se ac M : Nat} (hG : GEO sh R lr nw im tr rd hu se ac M) {t : xX} (hx : XOK t) {p wi : Nat} {l : List (Nat × Nat × Nat)} {i : Nat} (hi : i ≤ 100) (K : P (n, sh, 0, 0) I R L (some (.int 0)))  :  X T zX3_readEither 13 0 0 P 8 [(0, .ref rd), (1, .int (nI wi)), (2, .int 0), (3, .int (nI i))] [] (n, sh, 0, 0) (I) R L := by
  refine x_iload_n (pc := 8) dX3_readEither_8 rfl rfl ?_
  refine x_bipush (pc := 9) (v := 100) dX3_readEither_9 (by decide) ?_
  refine x_icmpn_ge (pc := 11) (tgt := 50) (a := i) (b := 100) dX3_readEither_11 (by decide) (by omega) (by decide) (fun c11 => ?_) (fun c11 => ?_)
  · skip
    refine x_iload_n (pc := 50) dX3_readEither_50 rfl rfl ?_
    refine x_ireturn (pc := 51) dX3_readEither_51 ⟨_, rfl, by decide⟩ ⟨Nat.le_refl _, Nat.le_refl _⟩ ?_
    exact K
  · skip
    refine x_iload_n (pc := 14) dX3_readEither_14 rfl rfl ?_
    refine x_if_eq_t (pc := 15) (tgt := 50) dX3_readEither_15 (by decide) (by decide) ?_
    refine x_iload_n (pc := 50) dX3_readEither_50 rfl rfl ?_
    refine x_ireturn (pc := 51) dX3_readEither_51 ⟨_, rfl, by decide⟩ ⟨Nat.le_refl _, Nat.le_refl _⟩ ?_
    exact K

set_option maxHeartbeats 4000000 in
set_option maxRecDepth 100000 in
theorem l_rE1 {T : xT} {n : Nat} {sh : Nat → Nat × Nat} {I : xI} {R : xR} {L : xL} {P : xPost} {lr nw im tr rd hu se ac M : Nat} (hG : GEO sh R lr nw im tr rd hu se ac M) {t : xX} (hx : XOK t) {p wi : Nat} {l : List (Nat × Nat × Nat)} (hk : 1 ≤ wi) (hw4 : wi ≤ 4) (K1 : ∀ (J : xI) (q : Nat) (e : xCE), PD (nxX t) 3 wi p none (q, some e) → RDS J rd t q (l ++ e.1) → rdP rd I J → P (n, sh, 0, 0) J R L (some (.int 1))) (K0 : ∀ (J : xI) (q : Nat), PD (nxX t) 3 wi p none (q, none) → RDX J rd t q → rdP rd I J → P (n, sh, 0, 0) J R L (some (.int 0)))  : ∀ (w i : Nat), i + w = 100 → ∀ (J : xI) (q : Nat) (e : xCE), nxX t q ≠ 38 → RDS J rd t q (l ++ e.1) → i ≤ q → (∀ r, PD (nxX t) 4 wi q (some e) r → PD (nxX t) 3 wi p none r) → rdP rd I J → X T zX3_readEither 13 0 0 P 8 [(0, .ref rd), (1, .int (nI wi)), (2, .int 1), (3, .int (nI i))] [] (n, sh, 0, 0) (J) R L := by
  have x100 := hx.1
  intro w
  induction w with
  | zero =>
    intro i hw J q e hn8 hs hiq hct fj
    have hz : i = 100 := by omega
    refine x_iload_n (pc := 8) dX3_readEither_8 rfl rfl ?_
    refine x_bipush (pc := 9) (v := 100) dX3_readEither_9 (by decide) ?_
    refine x_icmpn_ge_t (pc := 11) (tgt := 50) (a := i) (b := 100) dX3_readEither_11 (by decide) (by omega) (by decide) (by omega) ?_
    refine x_iload_n (pc := 50) dX3_readEither_50 rfl rfl ?_
    refine x_ireturn (pc := 51) dX3_readEither_51 ⟨_, rfl, by decide⟩ ⟨Nat.le_refl _, Nat.le_refl _⟩ ?_
    have hn : nxX t q ≠ 124 := by
      show (if q < t.1 then t.2 q else 256) ≠ 124
      rw [if_neg (by omega)]
      decide
    exact K1 J q e (hct _ (PD.Mend hn8 hn)) hs fj
  | succ w ih =>
    intro i hw J q e hn8 hs hiq hct fj
    have hi : i < 100 := by omega
    refine x_iload_n (pc := 8) dX3_readEither_8 rfl rfl ?_
    refine x_bipush (pc := 9) (v := 100) dX3_readEither_9 (by decide) ?_
    refine x_icmpn_ge_f (pc := 11) (tgt := 50) (a := i) (b := 100) dX3_readEither_11 (by decide) (by omega) (by decide) (by omega) ?_
    refine x_iload_n (pc := 14) dX3_readEither_14 rfl rfl ?_
    refine x_if_eq_f (pc := 15) (tgt := 50) dX3_readEither_15 (by decide) (by decide) ?_
    refine x_aload_n (pc := 18) dX3_readEither_18 rfl rfl ?_
    refine x_bipush (pc := 19) (v := 124) dX3_readEither_19 (by decide) ?_
    refine x_callV (pc := 21) (As := [.int _]) dX3_readEither_21 km_X3_accept kv_X3_accept kl_RX3_34 hG.g_rd rfl rfl (by decide) ⟨Nat.le_refl _, Nat.le_refl _⟩ rfl (Nat.le_of_ble_eq_true rfl) (Nat.le_of_ble_eq_true rfl) (c_accept (c := 124) hG hs.1 hx hs.2.1 hs.2.2.1 (by decide) (fun hc hlt => ⟨rfl, rfl, ?_⟩) (fun hc => ⟨rfl, rfl, ?_⟩))
    · skip
      refine x_if_eq_f (pc := 24) (tgt := 50) dX3_readEither_24 (by decide) (by decide) ?_
      refine x_aload_n (pc := 27) dX3_readEither_27 rfl rfl ?_
      refine x_iload_n (pc := 28) dX3_readEither_28 rfl rfl ?_
      refine x_callV (pc := 29) (As := [.int _]) dX3_readEither_29 km_X3_readBoth kv_X3_readBoth kl_RX3_73 hG.g_rd rfl rfl (by decide) ⟨Nat.le_refl _, Nat.le_refl _⟩ rfl (Nat.le_of_ble_eq_true rfl) (Nat.le_of_ble_eq_true rfl) (c_readBoth1 hG hx (hs.nx hlt) hk hw4 (fun J2 q2 e2 h1 hn2 h2 f2 => ⟨rfl, rfl, ?_⟩) (fun J2 q2 h1 h2 f2 => ⟨rfl, rfl, ?_⟩))
      · skip
        refine x_istore_n (pc := 32) (lv' := [(0, .ref rd), (1, .int (nI wi)), (2, .int 1), (3, .int (nI i))]) dX3_readEither_32 rfl (by decide) rfl ?_
        refine x_aload_n (pc := 33) dX3_readEither_33 rfl rfl ?_
        refine x_getr (pc := 34) dX3_readEither_34 kf_RX3_23 hG.g_rd rfl hG.g_rd1 ?_
        refine x_bipush (pc := 37) (v := 124) dX3_readEither_37 (by decide) ?_
        refine x_iconst (pc := 39) (v := 0) dX3_readEither_39 (by decide) ?_
        refine x_iconst (pc := 40) (v := 0) dX3_readEither_40 (by decide) ?_
        refine x_callV (pc := 41) (As := [.int _, .int _, .int _]) dX3_readEither_41 km_X4_add kv_X4_add kl_RX3_69 hG.g_draft.1 rfl rfl (by decide) ⟨Nat.le_refl _, Nat.le_refl _⟩ rfl (Nat.le_of_ble_eq_true rfl) (Nat.le_of_ble_eq_true rfl) (c_rgAdd (p := 124) (s := 0) (k := 0) hG.g_draft h2.2.2.2.1 (fun J3 d3 f3 => ⟨rfl, rfl, ?_⟩))
        refine x_iinc (pc := 44) (v := nI (i + 1)) (lv' := [(0, .ref rd), (1, .int (nI wi)), (2, .int 1), (3, .int (nI (i + 1)))]) dX3_readEither_44 rfl (nI_1 _) (by decide) rfl ?_
        refine x_goto (pc := 47) (tgt := 8) dX3_readEither_47 (by decide) ?_
        have g3 : q + 1 + e2.1.length ≤ q2 := (pd_gd h1 e2 rfl).2.2.1
        have hll := hs.2.2.2.2
        refine ih (i + 1) (by omega) J3 q2 (eO e e2) hn2 (h2.ad hx f3 d3 (by rw [List.length_append]; omega) ?_) (by omega) (fun r hr => hct r (PD.Mgo hc h1 hr)) (((fj.tr rdP.nx).tr f2).tr (rdP.rg f3))
        show l ++ (e.1 ++ e2.1 ++ [(124, 0, 0)]) = l ++ e.1 ++ e2.1 ++ [(124, 0, 0)]
        rw [← List.append_assoc, ← List.append_assoc]
      · skip
        refine x_istore_n (pc := 32) (lv' := [(0, .ref rd), (1, .int (nI wi)), (2, .int 0), (3, .int (nI i))]) dX3_readEither_32 rfl (by decide) rfl ?_
        refine x_aload_n (pc := 33) dX3_readEither_33 rfl rfl ?_
        refine x_getr (pc := 34) dX3_readEither_34 kf_RX3_23 hG.g_rd rfl hG.g_rd1 ?_
        refine x_bipush (pc := 37) (v := 124) dX3_readEither_37 (by decide) ?_
        refine x_iconst (pc := 39) (v := 0) dX3_readEither_39 (by decide) ?_
        refine x_iconst (pc := 40) (v := 0) dX3_readEither_40 (by decide) ?_
        refine x_callV (pc := 41) (As := [.int _, .int _, .int _]) dX3_readEither_41 km_X4_add kv_X4_add kl_RX3_69 hG.g_draft.1 rfl rfl (by decide) ⟨Nat.le_refl _, Nat.le_refl _⟩ rfl (Nat.le_of_ble_eq_true rfl) (Nat.le_of_ble_eq_true rfl) (c_rgAdd (p := 124) (s := 0) (k := 0) hG.g_draft h2.2.2.2.choose_spec (fun J3 d3 f3 => ⟨rfl, rfl, ?_⟩))
        refine x_iinc (pc := 44) (v := nI (i + 1)) (lv' := [(0, .ref rd), (1, .int (nI wi)), (2, .int 0), (3, .int (nI (i + 1)))]) dX3_readEither_44 rfl (nI_1 _) (by decide) rfl ?_
        refine x_goto (pc := 47) (tgt := 8) dX3_readEither_47 (by decide) ?_
        exact l_rE1z hG hx (p := p) (l := l) (t := t) (wi := wi) (i := i + 1) (by omega) (K0 J3 q2 (hct _ (PD.Mbad hc h1)) (h2.ad f3 d3) (((fj.tr rdP.nx).tr f2).tr (rdP.rg f3)))
    · skip
      refine x_if_eq_t (pc := 24) (tgt := 50) dX3_readEither_24 (by decide) (by decide) ?_
      refine x_iload_n (pc := 50) dX3_readEither_50 rfl rfl ?_
      refine x_ireturn (pc := 51) dX3_readEither_51 ⟨_, rfl, by decide⟩ ⟨Nat.le_refl _, Nat.le_refl _⟩ ?_
      have hn : nxX t q ≠ 124 := hc
      exact K1 J q e (hct _ (PD.Mend hn8 hn)) hs fj

set_option maxHeartbeats 4000000 in
set_option maxRecDepth 100000 in
theorem c_readEither1 {T : xT} {n : Nat} {sh : Nat → Nat × Nat} {I : xI} {R : xR} {L : xL} {P : xPost} {lr nw im tr rd hu se ac M : Nat} (hG : GEO sh R lr nw im tr rd hu se ac M) {t : xX} (hx : XOK t) {p wi : Nat} {l : List (Nat × Nat × Nat)} (hs : RDS I rd t p l) (hk : 1 ≤ wi) (hw4 : wi ≤ 4) (K1 : ∀ (J : xI) (q : Nat) (e : xCE), PD (nxX t) 3 wi p none (q, some e) → RDS J rd t q (l ++ e.1) → rdP rd I J → P (n, sh, 0, 0) J R L (some (.int 1))) (K0 : ∀ (J : xI) (q : Nat), PD (nxX t) 3 wi p none (q, none) → RDX J rd t q → rdP rd I J → P (n, sh, 0, 0) J R L (some (.int 0)))  : XM T zX3_readEither 13 [.ref rd, .int (nI wi)] n sh I R L P := by
  refine x_aload_n (pc := 0) dX3_readEither_0 rfl rfl ?_
  refine x_iload_n (pc := 1) dX3_readEither_1 rfl rfl ?_
  refine x_callV (pc := 2) (As := [.int _]) dX3_readEither_2 km_X3_readBoth kv_X3_readBoth kl_RX3_73 hG.g_rd rfl rfl (by decide) ⟨Nat.le_refl _, Nat.le_refl _⟩ rfl (Nat.le_of_ble_eq_true rfl) (Nat.le_of_ble_eq_true rfl) (c_readBoth1 hG hx hs hk hw4 (fun J q e h1 hn2 h2 f2 => ⟨rfl, rfl, ?_⟩) (fun J q h1 h2 f2 => ⟨rfl, rfl, ?_⟩))
  · skip
    refine x_istore_n (pc := 5) (lv' := [(0, .ref rd), (1, .int (nI wi)), (2, .int 1)]) dX3_readEither_5 rfl (by decide) rfl ?_
    refine x_iconst (pc := 6) (v := 0) dX3_readEither_6 (by decide) ?_
    refine x_istore_n (pc := 7) (lv' := [(0, .ref rd), (1, .int (nI wi)), (2, .int 1), (3, .int 0)]) dX3_readEither_7 rfl (by decide) rfl ?_
    exact l_rE1 hG hx hk hw4 K1 K0 100 0 (by omega) J q e hn2 h2 (by omega) (fun r hr => PD.Ego h1 hr) f2
  · skip
    refine x_istore_n (pc := 5) (lv' := [(0, .ref rd), (1, .int (nI wi)), (2, .int 0)]) dX3_readEither_5 rfl (by decide) rfl ?_
    refine x_iconst (pc := 6) (v := 0) dX3_readEither_6 (by decide) ?_
    refine x_istore_n (pc := 7) (lv' := [(0, .ref rd), (1, .int (nI wi)), (2, .int 0), (3, .int 0)]) dX3_readEither_7 rfl (by decide) rfl ?_
    exact l_rE1z hG hx (p := p) (l := l) (t := t) (wi := wi) (i := 0) (by omega) (K0 J q (PD.Ebad h1) h2 f2)

set_option maxHeartbeats 4000000 in
set_option maxRecDepth 100000 in
theorem l_rO0 {T : xT} {n : Nat} {sh : Nat → Nat × Nat} {I : xI} {R : xR} {L : xL} {P : xPost} {lr nw im tr rd hu se ac M : Nat} (hG : GEO sh R lr nw im tr rd hu se ac M) {t : xX} (hx : XOK t) {p wi : Nat} {l : List (Nat × Nat × Nat)} (hw4 : wi ≤ 4) (K : ∀ (J : xI) (j : Nat), BGs (nxX t) wi p j → RDS J rd t (p + j) l → rdP rd I J → X T zX3_readOne 14 0 0 P 22 [(0, .ref rd), (1, .int (nI wi)), (2, .int (nI (wi + j)))] [] (n, sh, 0, 0) J R L)  : ∀ (w i : Nat), i + w = 4 - wi → ∀ (J : xI), RDS J rd t (p + i) l → (∀ k, k < i → nxX t (p + k) = 33) → rdP rd I J → X T zX3_readOne 14 0 0 P 2 [(0, .ref rd), (1, .int (nI wi)), (2, .int (nI (wi + i)))] [] (n, sh, 0, 0) (J) R L := by
  intro w
  induction w with
  | zero =>
    intro i hw J hs hb fj
    have hz : i = 4 - wi := by omega
    refine x_iload_n (pc := 2) dX3_readOne_2 rfl rfl ?_
    refine x_iconst (pc := 3) (v := 4) dX3_readOne_3 (by decide) ?_
    refine x_icmpn_ge_t (pc := 4) (tgt := 22) (a := (wi + i)) (b := 4) dX3_readOne_4 (by decide) (by omega) (by decide) (by omega) ?_
    exact X.keep [0, 1, 2] rfl (K J i ⟨by omega, hb, Or.inl (by omega)⟩ hs fj)
  | succ w ih =>
    intro i hw J hs hb fj
    have hi : i < 4 - wi := by omega
    refine x_iload_n (pc := 2) dX3_readOne_2 rfl rfl ?_
    refine x_iconst (pc := 3) (v := 4) dX3_readOne_3 (by decide) ?_
    refine x_icmpn_ge_f (pc := 4) (tgt := 22) (a := (wi + i)) (b := 4) dX3_readOne_4 (by decide) (by omega) (by decide) (by omega) ?_
    refine x_aload_n (pc := 7) dX3_readOne_7 rfl rfl ?_
    refine x_bipush (pc := 8) (v := 33) dX3_readOne_8 (by decide) ?_
    refine x_callV (pc := 10) (As := [.int _]) dX3_readOne_10 km_X3_accept kv_X3_accept kl_RX3_34 hG.g_rd rfl rfl (by decide) ⟨Nat.le_refl _, Nat.le_refl _⟩ rfl (Nat.le_of_ble_eq_true rfl) (Nat.le_of_ble_eq_true rfl) (c_accept (c := 33) hG hs.1 hx hs.2.1 hs.2.2.1 (by decide) (fun hc hlt => ⟨rfl, rfl, ?_⟩) (fun hc => ⟨rfl, rfl, ?_⟩))
    · skip
      refine x_if_eq_f (pc := 13) (tgt := 22) dX3_readOne_13 (by decide) (by decide) ?_
      refine x_iinc (pc := 16) (v := nI (wi + i + 1)) (lv' := [(0, .ref rd), (1, .int (nI wi)), (2, .int (nI (wi + i + 1)))]) dX3_readOne_16 rfl (nI_1 _) (by decide) rfl ?_
      refine x_goto (pc := 19) (tgt := 2) dX3_readOne_19 (by decide) ?_
      refine ih (i + 1) (by omega) _ (hs.nx hlt) (fun k hk => ?_) (fj.tr rdP.nx)
      rcases Nat.lt_succ_iff_lt_or_eq.mp hk with z | z
      · exact hb k z
      · rw [z]; exact hc
    · skip
      refine x_if_eq_t (pc := 13) (tgt := 22) dX3_readOne_13 (by decide) (by decide) ?_
      exact X.keep [0, 1, 2] rfl (K J i ⟨by omega, hb, Or.inr hc⟩ hs fj)

set_option maxHeartbeats 4000000 in
set_option maxRecDepth 100000 in
theorem l_rO0e {T : xT} {n : Nat} {sh : Nat → Nat × Nat} {I : xI} {R : xR} {L : xL} {P : xPost} {lr nw im tr rd hu se ac M : Nat} (hG : GEO sh R lr nw im tr rd hu se ac M) {t : xX} (hx : XOK t) {p wi : Nat} {l : List (Nat × Nat × Nat)} {j q : Nat} {e : xCE} (hs : RDS I rd t q (l ++ e.1)) (hw4 : wi + j ≤ 4) (hl : l.length + e.1.length + j ≤ q) (K : ∀ J : xI, RDS J rd t q (l ++ (eN j e).1) → rdP rd I J → P (n, sh, 0, 0) J R L (some (.int 1)))  :  X T zX3_readOne 14 0 0 P 183 [(0, .ref rd), (1, .int (nI wi)), (2, .int (nI (wi + j)))] [] (n, sh, 0, 0) (I) R L := by
  refine x_iload_n (pc := 183) dX3_readOne_183 rfl rfl ?_
  refine x_iload_n (pc := 184) dX3_readOne_184 rfl rfl ?_
  refine x_isub (pc := 185) dX3_readOne_185 ?_
  rw [show nI (wi + j) - nI wi = nI j from by rw [pk_sub (by omega), Nat.add_sub_cancel_left]]
  refine x_iconst (pc := 186) (v := 2) dX3_readOne_186 (by decide) ?_
  refine x_iremn (pc := 187) (a := j) (b := 2) dX3_readOne_187 (by omega) (by decide) (by decide) ?_
  refine x_ifn_eq (pc := 188) (tgt := 202) (a := (j % 2)) dX3_readOne_188 (by decide) (by omega) (fun c188 => ?_) (fun c188 => ?_)
  · skip
    refine x_iconst (pc := 202) (v := 1) dX3_readOne_202 (by decide) ?_
    refine x_ireturn (pc := 203) dX3_readOne_203 ⟨_, rfl, by decide⟩ ⟨Nat.le_refl _, Nat.le_refl _⟩ ?_
    first
    | exact K J (hs.ad hx fJ dJ (by rw [List.length_append]; omega) (by show l ++ (e.1 ++ (if j % 2 = 1 then [(33, 0, 0)] else [])) = _; rw [if_pos (by omega), List.append_assoc])) (rdP.rg fJ)
    | exact K I (by rw [show l ++ (eN j e).1 = l ++ e.1 from by show l ++ (e.1 ++ (if j % 2 = 1 then [(33, 0, 0)] else [])) = _; rw [if_neg (by omega), List.append_nil]]; exact hs) rdP.rf
  · skip
    refine x_aload_n (pc := 191) dX3_readOne_191 rfl rfl ?_
    refine x_getr (pc := 192) dX3_readOne_192 kf_RX3_23 hG.g_rd rfl hG.g_rd1 ?_
    refine x_bipush (pc := 195) (v := 33) dX3_readOne_195 (by decide) ?_
    refine x_iconst (pc := 197) (v := 0) dX3_readOne_197 (by decide) ?_
    refine x_iconst (pc := 198) (v := 0) dX3_readOne_198 (by decide) ?_
    refine x_callV (pc := 199) (As := [.int _, .int _, .int _]) dX3_readOne_199 km_X4_add kv_X4_add kl_RX3_69 hG.g_draft.1 rfl rfl (by decide) ⟨Nat.le_refl _, Nat.le_refl _⟩ rfl (Nat.le_of_ble_eq_true rfl) (Nat.le_of_ble_eq_true rfl) (c_rgAdd (p := 33) (s := 0) (k := 0) hG.g_draft hs.2.2.2.1 (fun J dJ fJ => ⟨rfl, rfl, ?_⟩))
    refine x_iconst (pc := 202) (v := 1) dX3_readOne_202 (by decide) ?_
    refine x_ireturn (pc := 203) dX3_readOne_203 ⟨_, rfl, by decide⟩ ⟨Nat.le_refl _, Nat.le_refl _⟩ ?_
    first
    | exact K J (hs.ad hx fJ dJ (by rw [List.length_append]; omega) (by show l ++ (e.1 ++ (if j % 2 = 1 then [(33, 0, 0)] else [])) = _; rw [if_pos (by omega), List.append_assoc])) (rdP.rg fJ)
    | exact K I (by rw [show l ++ (eN j e).1 = l ++ e.1 from by show l ++ (e.1 ++ (if j % 2 = 1 then [(33, 0, 0)] else [])) = _; rw [if_neg (by omega), List.append_nil]]; exact hs) rdP.rf

set_option maxHeartbeats 4000000 in
set_option maxRecDepth 100000 in
theorem l_rO0c {T : xT} {n : Nat} {sh : Nat → Nat × Nat} {I : xI} {R : xR} {L : xL} {P : xPost} {lr nw im tr rd hu se ac M : Nat} (hG : GEO sh R lr nw im tr rd hu se ac M) {t : xX} (hx : XOK t) {p wi : Nat} {l : List (Nat × Nat × Nat)} {j : Nat} (hb : BGs (nxX t) wi p j) (h4 : wi + j = 4 ∨ nxX t (p + j) ≠ 40) (hlt : isLt (nxX t (p + j))) (hsg : isSg (nxX t (p + j + 1))) (hs : RDS I rd t (p + j + 1) l) (hl : l.length ≤ p) (K1 : ∀ (J : xI) (q : Nat) (e : xCE), PD (nxX t) 0 wi p none (q, some e) → RDS J rd t q (l ++ e.1) → rdP rd I J → P (n, sh, 0, 0) J R L (some (.int 1))) (K0 : ∀ (J : xI) (q : Nat), PD (nxX t) 0 wi p none (q, none) → RDX J rd t q → rdP rd I J → P (n, sh, 0, 0) J R L (some (.int 0)))  :  X T zX3_readOne 14 0 0 P 147 [(0, .ref rd), (1, .int (nI wi)), (2, .int (nI (wi + j))), (3, .int (nI (nxX t (p + j)))), (4, .int (nI (nxX t (p + j + 1))))] [] (n, sh, 0, 0) (I) R L := by
  have x100 := hx.1
  have l1 : p + j + 1 < t.1 := by
    have : 60 ≤ nxX t (p + j + 1) ∧ nxX t (p + j + 1) ≤ 62 := hsg
    exact nxX_lt rfl (by omega)
  have hs2 := hs.nx l1
  refine x_aload_n (pc := 147) dX3_readOne_147 rfl rfl ?_
  refine x_dup (pc := 148) dX3_readOne_148 rfl ?_
  refine x_get (pc := 149) dX3_readOne_149 kf_RX3_27 hG.g_rd rfl ?_
  rw [hs.2.1]
  refine x_iconst (pc := 152) (v := 1) dX3_readOne_152 (by decide) ?_
  refine x_iaddn (pc := 153) (a := (p + j + 1)) (b := 1) dX3_readOne_153 ?_
  refine x_put (pc := 154) dX3_readOne_154 kf_RX3_27 hG.g_rd rfl (Or.inl kb_3_2) ?_
  refine x_aload_n (pc := 157) dX3_readOne_157 rfl rfl ?_
  refine x_callV (pc := 158) (As := []) dX3_readOne_158 km_X3_readNumber kv_X3_readNumber kl_RX3_59 hG.g_rd rfl rfl (by decide) ⟨Nat.le_refl _, Nat.le_refl _⟩ rfl (Nat.le_of_ble_eq_true rfl) (Nat.le_of_ble_eq_true rfl) (c_readNumber (p := p + j + 2) hG hs2.1 hx hs2.2.1 hs2.2.2.1 (fun q k hn hq J eJ fJ => ⟨rfl, rfl, ?_⟩) (fun hn => ⟨rfl, rfl, ?_⟩))
  · skip
    have hk := (numF_p hn).2
    have hq1 := (numF_p hn).1
    have hs3 := hs2.go fJ eJ hq (show p + j + 1 + 1 ≤ q by have : p + j + 2 + 1 ≤ q := hq1; omega)
    refine x_istore (pc := 161) (lv' := [(0, .ref rd), (1, .int (nI wi)), (2, .int (nI (wi + j))), (3, .int (nI (nxX t (p + j)))), (4, .int (nI (nxX t (p + j + 1)))), (5, .int (nI k))]) dX3_readOne_161 (by decide) rfl ?_
    refine x_iload (pc := 163) dX3_readOne_163 rfl ?_
    refine x_iconst (pc := 165) (v := -1) dX3_readOne_165 (by decide) ?_
    refine x_icmp_ne_t (pc := 166) (tgt := 171) dX3_readOne_166 (by decide) (nI_nem (by omega)) ?_
    refine x_aload_n (pc := 171) dX3_readOne_171 rfl rfl ?_
    refine x_getr (pc := 172) dX3_readOne_172 kf_RX3_23 hG.g_rd rfl hG.g_rd1 ?_
    refine x_iload_n (pc := 175) dX3_readOne_175 rfl rfl ?_
    refine x_iload (pc := 176) dX3_readOne_176 rfl ?_
    refine x_iload (pc := 178) dX3_readOne_178 rfl ?_
    refine x_callV (pc := 180) (As := [.int _, .int _, .int _]) dX3_readOne_180 km_X4_add kv_X4_add kl_RX3_69 hG.g_draft.1 rfl rfl (by decide) ⟨Nat.le_refl _, Nat.le_refl _⟩ rfl (Nat.le_of_ble_eq_true rfl) (Nat.le_of_ble_eq_true rfl) (c_rgAdd (p := nxX t (p + j)) (s := nxX t (p + j + 1)) (k := k) hG.g_draft hs3.2.2.2.1 (fun J2 dJ f2 => ⟨rfl, rfl, ?_⟩))
    have hq1 : p + j + 2 + 1 ≤ q := hq1
    exact X.keep [0, 1, 2] rfl (l_rO0e (p := p) (e := eT (nxX t (p + j)) (nxX t (p + j + 1)) k) (l := l) (j := j) hG hx (hs3.ad hx f2 dJ (by omega) rfl) hb.1 (by show l.length + 1 + j ≤ q; omega) (fun J3 hs4 f3 => K1 J3 q _ (PD.tok hb h4 (tstF_3 hlt hsg hn)) hs4 (((rdP.nx.tr (rdP.ne fJ)).tr (rdP.rg f2)).tr f3)))
  · skip
    refine x_istore (pc := 161) (lv' := [(0, .ref rd), (1, .int (nI wi)), (2, .int (nI (wi + j))), (3, .int (nI (nxX t (p + j)))), (4, .int (nI (nxX t (p + j + 1)))), (5, .int (-1))]) dX3_readOne_161 (by decide) rfl ?_
    refine x_iload (pc := 163) dX3_readOne_163 rfl ?_
    refine x_iconst (pc := 165) (v := -1) dX3_readOne_165 (by decide) ?_
    refine x_icmp_ne_f (pc := 166) (tgt := 171) dX3_readOne_166 (by decide) (by decide) ?_
    refine x_iconst (pc := 169) (v := 0) dX3_readOne_169 (by decide) ?_
    refine x_ireturn (pc := 170) dX3_readOne_170 ⟨_, rfl, by decide⟩ ⟨Nat.le_refl _, Nat.le_refl _⟩ ?_
    exact K0 _ _ (PD.tbad hb h4 (tstF_2 hlt hsg hn)) hs2.x rdP.nx

set_option maxHeartbeats 4000000 in
set_option maxRecDepth 100000 in
theorem l_rO0b {T : xT} {n : Nat} {sh : Nat → Nat × Nat} {I : xI} {R : xR} {L : xL} {P : xPost} {lr nw im tr rd hu se ac M : Nat} (hG : GEO sh R lr nw im tr rd hu se ac M) {t : xX} (hx : XOK t) {p wi : Nat} {l : List (Nat × Nat × Nat)} {j : Nat} (hb : BGs (nxX t) wi p j) (h4 : wi + j = 4 ∨ nxX t (p + j) ≠ 40) (hlt : isLt (nxX t (p + j))) (hs : RDS I rd t (p + j) l) (hl : l.length ≤ p) (K1 : ∀ (J : xI) (q : Nat) (e : xCE), PD (nxX t) 0 wi p none (q, some e) → RDS J rd t q (l ++ e.1) → rdP rd I J → P (n, sh, 0, 0) J R L (some (.int 1))) (K0 : ∀ (J : xI) (q : Nat), PD (nxX t) 0 wi p none (q, none) → RDX J rd t q → rdP rd I J → P (n, sh, 0, 0) J R L (some (.int 0)))  :  X T zX3_readOne 14 0 0 P 101 [(0, .ref rd), (1, .int (nI wi)), (2, .int (nI (wi + j))), (3, .int (nI (nxX t (p + j))))] [] (n, sh, 0, 0) (I) R L := by
  have x100 := hx.1
  have l1 : p + j < t.1 := nxX_lt rfl (by rcases hlt with z | z | z | z | z <;> rw [z] <;> decide)
  have hs2 := hs.nx l1
  refine x_aload_n (pc := 101) dX3_readOne_101 rfl rfl ?_
  refine x_dup (pc := 102) dX3_readOne_102 rfl ?_
  refine x_get (pc := 103) dX3_readOne_103 kf_RX3_27 hG.g_rd rfl ?_
  rw [hs.2.1]
  refine x_iconst (pc := 106) (v := 1) dX3_readOne_106 (by decide) ?_
  refine x_iaddn (pc := 107) (a := (p + j)) (b := 1) dX3_readOne_107 ?_
  refine x_put (pc := 108) dX3_readOne_108 kf_RX3_27 hG.g_rd rfl (Or.inl kb_3_2) ?_
  refine x_aload_n (pc := 111) dX3_readOne_111 rfl rfl ?_
  refine x_getr (pc := 112) dX3_readOne_112 kf_RX3_14 hG.g_rd rfl hG.g_rd0 ?_
  refine x_aload_n (pc := 115) dX3_readOne_115 rfl rfl ?_
  refine x_get (pc := 116) dX3_readOne_116 kf_RX3_27 hG.g_rd rfl ?_
  refine x_callV (pc := 119) (As := [.int _]) dX3_readOne_119 km_X5_at kv_X5_at kl_RX3_45 hG.g_text.1 rfl rfl (by decide) ⟨Nat.le_refl _, Nat.le_refl _⟩ rfl (Nat.le_of_ble_eq_true rfl) (Nat.le_of_ble_eq_true rfl) (c_at hG.g_text (⟨rfl, rfl, ?_⟩))
  rw [hs2.2.1, nC_at hs2.1 hx (by omega)]
  refine x_istore (pc := 122) (lv' := [(0, .ref rd), (1, .int (nI wi)), (2, .int (nI (wi + j))), (3, .int (nI (nxX t (p + j)))), (4, .int (nC (nxX t (p + j + 1))))]) dX3_readOne_122 (by decide) rfl ?_
  refine x_iload (pc := 124) dX3_readOne_124 rfl ?_
  refine x_bipush (pc := 126) (v := 60) dX3_readOne_126 (by decide) ?_
  refine x_icmp_eq (pc := 128) (tgt := 147) dX3_readOne_128 (by decide) (fun c128 => ?_) (fun c128 => ?_)
  · skip
    have hsg : isSg (nxX t (p + j + 1)) := by
      have z : nxX t (p + j + 1) = 60 ∨ nxX t (p + j + 1) = 61 ∨ nxX t (p + j + 1) = 62 := by
        first
        | exact Or.inl ((nC_eq (by decide)).mp c128)
        | exact Or.inr (Or.inl ((nC_eq (by decide)).mp c135))
        | exact Or.inr (Or.inr ((nC_eq (by decide)).mp c142))
      show 60 ≤ nxX t (p + j + 1) ∧ nxX t (p + j + 1) ≤ 62
      omega
    have h62 : 60 ≤ nxX t (p + j + 1) ∧ nxX t (p + j + 1) ≤ 62 := hsg
    rw [nC_lit (show nxX t (p + j + 1) < 256 by omega)]
    exact X.keep [0, 1, 2, 3, 4] rfl (l_rO0c hG hx hb h4 hlt hsg hs2 hl (fun J q e g1 g2 g3 => K1 J q e g1 g2 (rdP.nx.tr g3)) (fun J q g1 g2 g3 => K0 J q g1 g2 (rdP.nx.tr g3)))
  · skip
    refine x_iload (pc := 131) dX3_readOne_131 rfl ?_
    refine x_bipush (pc := 133) (v := 61) dX3_readOne_133 (by decide) ?_
    refine x_icmp_eq (pc := 135) (tgt := 147) dX3_readOne_135 (by decide) (fun c135 => ?_) (fun c135 => ?_)
    · skip
      have hsg : isSg (nxX t (p + j + 1)) := by
        have z : nxX t (p + j + 1) = 60 ∨ nxX t (p + j + 1) = 61 ∨ nxX t (p + j + 1) = 62 := by
          first
          | exact Or.inl ((nC_eq (by decide)).mp c128)
          | exact Or.inr (Or.inl ((nC_eq (by decide)).mp c135))
          | exact Or.inr (Or.inr ((nC_eq (by decide)).mp c142))
        show 60 ≤ nxX t (p + j + 1) ∧ nxX t (p + j + 1) ≤ 62
        omega
      have h62 : 60 ≤ nxX t (p + j + 1) ∧ nxX t (p + j + 1) ≤ 62 := hsg
      rw [nC_lit (show nxX t (p + j + 1) < 256 by omega)]
      exact X.keep [0, 1, 2, 3, 4] rfl (l_rO0c hG hx hb h4 hlt hsg hs2 hl (fun J q e g1 g2 g3 => K1 J q e g1 g2 (rdP.nx.tr g3)) (fun J q g1 g2 g3 => K0 J q g1 g2 (rdP.nx.tr g3)))
    · skip
      refine x_iload (pc := 138) dX3_readOne_138 rfl ?_
      refine x_bipush (pc := 140) (v := 62) dX3_readOne_140 (by decide) ?_
      refine x_icmp_eq (pc := 142) (tgt := 147) dX3_readOne_142 (by decide) (fun c142 => ?_) (fun c142 => ?_)
      · skip
        have hsg : isSg (nxX t (p + j + 1)) := by
          have z : nxX t (p + j + 1) = 60 ∨ nxX t (p + j + 1) = 61 ∨ nxX t (p + j + 1) = 62 := by
            first
            | exact Or.inl ((nC_eq (by decide)).mp c128)
            | exact Or.inr (Or.inl ((nC_eq (by decide)).mp c135))
            | exact Or.inr (Or.inr ((nC_eq (by decide)).mp c142))
          show 60 ≤ nxX t (p + j + 1) ∧ nxX t (p + j + 1) ≤ 62
          omega
        have h62 : 60 ≤ nxX t (p + j + 1) ∧ nxX t (p + j + 1) ≤ 62 := hsg
        rw [nC_lit (show nxX t (p + j + 1) < 256 by omega)]
        exact X.keep [0, 1, 2, 3, 4] rfl (l_rO0c hG hx hb h4 hlt hsg hs2 hl (fun J q e g1 g2 g3 => K1 J q e g1 g2 (rdP.nx.tr g3)) (fun J q g1 g2 g3 => K0 J q g1 g2 (rdP.nx.tr g3)))
      · skip
        refine x_iconst (pc := 145) (v := 0) dX3_readOne_145 (by decide) ?_
        refine x_ireturn (pc := 146) dX3_readOne_146 ⟨_, rfl, by decide⟩ ⟨Nat.le_refl _, Nat.le_refl _⟩ ?_
        exact K0 _ _ (PD.tbad hb h4 (tstF_1 hlt (fun q => by
          have q : 60 ≤ nxX t (p + j + 1) ∧ nxX t (p + j + 1) ≤ 62 := q
          have z : nxX t (p + j + 1) = 60 ∨ nxX t (p + j + 1) = 61 ∨ nxX t (p + j + 1) = 62 := by omega
          rcases z with z | z | z
          · exact c128 ((nC_eq (by decide)).mpr z)
          · exact c135 ((nC_eq (by decide)).mpr z)
          · exact c142 ((nC_eq (by decide)).mpr z)))) hs2.x rdP.nx

set_option maxHeartbeats 4000000 in
set_option maxRecDepth 100000 in
theorem l_rO0a {T : xT} {n : Nat} {sh : Nat → Nat × Nat} {I : xI} {R : xR} {L : xL} {P : xPost} {lr nw im tr rd hu se ac M : Nat} (hG : GEO sh R lr nw im tr rd hu se ac M) {t : xX} (hx : XOK t) {p wi : Nat} {l : List (Nat × Nat × Nat)} {j : Nat} (hb : BGs (nxX t) wi p j) (h4 : wi + j = 4 ∨ nxX t (p + j) ≠ 40) (hs : RDS I rd t (p + j) l) (hl : l.length ≤ p) (K1 : ∀ (J : xI) (q : Nat) (e : xCE), PD (nxX t) 0 wi p none (q, some e) → RDS J rd t q (l ++ e.1) → rdP rd I J → P (n, sh, 0, 0) J R L (some (.int 1))) (K0 : ∀ (J : xI) (q : Nat), PD (nxX t) 0 wi p none (q, none) → RDX J rd t q → rdP rd I J → P (n, sh, 0, 0) J R L (some (.int 0)))  :  X T zX3_readOne 14 0 0 P 57 [(0, .ref rd), (1, .int (nI wi)), (2, .int (nI (wi + j)))] [] (n, sh, 0, 0) (I) R L := by
  have x100 := hx.1
  refine x_aload_n (pc := 57) dX3_readOne_57 rfl rfl ?_
  refine x_getr (pc := 58) dX3_readOne_58 kf_RX3_14 hG.g_rd rfl hG.g_rd0 ?_
  refine x_aload_n (pc := 61) dX3_readOne_61 rfl rfl ?_
  refine x_get (pc := 62) dX3_readOne_62 kf_RX3_27 hG.g_rd rfl ?_
  refine x_callV (pc := 65) (As := [.int _]) dX3_readOne_65 km_X5_at kv_X5_at kl_RX3_45 hG.g_text.1 rfl rfl (by decide) ⟨Nat.le_refl _, Nat.le_refl _⟩ rfl (Nat.le_of_ble_eq_true rfl) (Nat.le_of_ble_eq_true rfl) (c_at hG.g_text (⟨rfl, rfl, ?_⟩))
  rw [hs.2.1, nC_at hs.1 hx (by have := hs.2.2.1; omega)]
  refine x_istore_n (pc := 68) (lv' := [(0, .ref rd), (1, .int (nI wi)), (2, .int (nI (wi + j))), (3, .int (nC (nxX t (p + j))))]) dX3_readOne_68 rfl (by decide) rfl ?_
  refine x_iload_n (pc := 69) dX3_readOne_69 rfl rfl ?_
  refine x_bipush (pc := 70) (v := 110) dX3_readOne_70 (by decide) ?_
  refine x_icmp_eq (pc := 72) (tgt := 101) dX3_readOne_72 (by decide) (fun c72 => ?_) (fun c72 => ?_)
  · skip
    have hlt : isLt (nxX t (p + j)) := by
      first
      | exact Or.inl ((nC_eq (by decide)).mp c72)
      | exact Or.inr (Or.inl ((nC_eq (by decide)).mp c78))
      | exact Or.inr (Or.inr (Or.inl ((nC_eq (by decide)).mp c84)))
      | exact Or.inr (Or.inr (Or.inr (Or.inl ((nC_eq (by decide)).mp c90))))
      | exact Or.inr (Or.inr (Or.inr (Or.inr ((nC_eq (by decide)).mp c96))))
    have h128 : nxX t (p + j) < 256 := by rcases hlt with z | z | z | z | z <;> rw [z] <;> decide
    rw [nC_lit h128]
    exact X.keep [0, 1, 2, 3] rfl (l_rO0b hG hx hb h4 hlt hs hl K1 K0)
  · skip
    refine x_iload_n (pc := 75) dX3_readOne_75 rfl rfl ?_
    refine x_bipush (pc := 76) (v := 104) dX3_readOne_76 (by decide) ?_
    refine x_icmp_eq (pc := 78) (tgt := 101) dX3_readOne_78 (by decide) (fun c78 => ?_) (fun c78 => ?_)
    · skip
      have hlt : isLt (nxX t (p + j)) := by
        first
        | exact Or.inl ((nC_eq (by decide)).mp c72)
        | exact Or.inr (Or.inl ((nC_eq (by decide)).mp c78))
        | exact Or.inr (Or.inr (Or.inl ((nC_eq (by decide)).mp c84)))
        | exact Or.inr (Or.inr (Or.inr (Or.inl ((nC_eq (by decide)).mp c90))))
        | exact Or.inr (Or.inr (Or.inr (Or.inr ((nC_eq (by decide)).mp c96))))
      have h128 : nxX t (p + j) < 256 := by rcases hlt with z | z | z | z | z <;> rw [z] <;> decide
      rw [nC_lit h128]
      exact X.keep [0, 1, 2, 3] rfl (l_rO0b hG hx hb h4 hlt hs hl K1 K0)
    · skip
      refine x_iload_n (pc := 81) dX3_readOne_81 rfl rfl ?_
      refine x_bipush (pc := 82) (v := 98) dX3_readOne_82 (by decide) ?_
      refine x_icmp_eq (pc := 84) (tgt := 101) dX3_readOne_84 (by decide) (fun c84 => ?_) (fun c84 => ?_)
      · skip
        have hlt : isLt (nxX t (p + j)) := by
          first
          | exact Or.inl ((nC_eq (by decide)).mp c72)
          | exact Or.inr (Or.inl ((nC_eq (by decide)).mp c78))
          | exact Or.inr (Or.inr (Or.inl ((nC_eq (by decide)).mp c84)))
          | exact Or.inr (Or.inr (Or.inr (Or.inl ((nC_eq (by decide)).mp c90))))
          | exact Or.inr (Or.inr (Or.inr (Or.inr ((nC_eq (by decide)).mp c96))))
        have h128 : nxX t (p + j) < 256 := by rcases hlt with z | z | z | z | z <;> rw [z] <;> decide
        rw [nC_lit h128]
        exact X.keep [0, 1, 2, 3] rfl (l_rO0b hG hx hb h4 hlt hs hl K1 K0)
      · skip
        refine x_iload_n (pc := 87) dX3_readOne_87 rfl rfl ?_
        refine x_bipush (pc := 88) (v := 99) dX3_readOne_88 (by decide) ?_
        refine x_icmp_eq (pc := 90) (tgt := 101) dX3_readOne_90 (by decide) (fun c90 => ?_) (fun c90 => ?_)
        · skip
          have hlt : isLt (nxX t (p + j)) := by
            first
            | exact Or.inl ((nC_eq (by decide)).mp c72)
            | exact Or.inr (Or.inl ((nC_eq (by decide)).mp c78))
            | exact Or.inr (Or.inr (Or.inl ((nC_eq (by decide)).mp c84)))
            | exact Or.inr (Or.inr (Or.inr (Or.inl ((nC_eq (by decide)).mp c90))))
            | exact Or.inr (Or.inr (Or.inr (Or.inr ((nC_eq (by decide)).mp c96))))
          have h128 : nxX t (p + j) < 256 := by rcases hlt with z | z | z | z | z <;> rw [z] <;> decide
          rw [nC_lit h128]
          exact X.keep [0, 1, 2, 3] rfl (l_rO0b hG hx hb h4 hlt hs hl K1 K0)
        · skip
          refine x_iload_n (pc := 93) dX3_readOne_93 rfl rfl ?_
          refine x_bipush (pc := 94) (v := 116) dX3_readOne_94 (by decide) ?_
          refine x_icmp_eq (pc := 96) (tgt := 101) dX3_readOne_96 (by decide) (fun c96 => ?_) (fun c96 => ?_)
          · skip
            have hlt : isLt (nxX t (p + j)) := by
              first
              | exact Or.inl ((nC_eq (by decide)).mp c72)
              | exact Or.inr (Or.inl ((nC_eq (by decide)).mp c78))
              | exact Or.inr (Or.inr (Or.inl ((nC_eq (by decide)).mp c84)))
              | exact Or.inr (Or.inr (Or.inr (Or.inl ((nC_eq (by decide)).mp c90))))
              | exact Or.inr (Or.inr (Or.inr (Or.inr ((nC_eq (by decide)).mp c96))))
            have h128 : nxX t (p + j) < 256 := by rcases hlt with z | z | z | z | z <;> rw [z] <;> decide
            rw [nC_lit h128]
            exact X.keep [0, 1, 2, 3] rfl (l_rO0b hG hx hb h4 hlt hs hl K1 K0)
          · skip
            refine x_iconst (pc := 99) (v := 0) dX3_readOne_99 (by decide) ?_
            refine x_ireturn (pc := 100) dX3_readOne_100 ⟨_, rfl, by decide⟩ ⟨Nat.le_refl _, Nat.le_refl _⟩ ?_
            exact K0 _ _ (PD.tbad hb h4 (tstF_0 (fun q => by
              rcases q with z | z | z | z | z
              · exact c72 ((nC_eq (by decide)).mpr z)
              · exact c78 ((nC_eq (by decide)).mpr z)
              · exact c84 ((nC_eq (by decide)).mpr z)
              · exact c90 ((nC_eq (by decide)).mpr z)
              · exact c96 ((nC_eq (by decide)).mpr z)))) hs.x rdP.rf

set_option maxHeartbeats 4000000 in
set_option maxRecDepth 100000 in
theorem l_rO0d {T : xT} {n : Nat} {sh : Nat → Nat × Nat} {I : xI} {R : xR} {L : xL} {P : xPost} {lr nw im tr rd hu se ac M : Nat} (hG : GEO sh R lr nw im tr rd hu se ac M) {t : xX} (hx : XOK t) {p wi : Nat} {l : List (Nat × Nat × Nat)} {j : Nat} (hb : BGs (nxX t) wi p j) (hs : RDS I rd t (p + j) l) (hl : l.length ≤ p) (hk : 0 ≤ wi) (K1 : ∀ (J : xI) (q : Nat) (e : xCE), PD (nxX t) 0 wi p none (q, some e) → RDS J rd t q (l ++ e.1) → rdP rd I J → P (n, sh, 0, 0) J R L (some (.int 1))) (K0 : ∀ (J : xI) (q : Nat), PD (nxX t) 0 wi p none (q, none) → RDX J rd t q → rdP rd I J → P (n, sh, 0, 0) J R L (some (.int 0)))  :  X T zX3_readOne 14 0 0 P 22 [(0, .ref rd), (1, .int (nI wi)), (2, .int (nI (wi + j)))] [] (n, sh, 0, 0) (I) R L := by
  have hb1 := hb.1
  refine x_iload_n (pc := 22) dX3_readOne_22 rfl rfl ?_
  refine x_iconst (pc := 23) (v := 4) dX3_readOne_23 (by decide) ?_
  refine x_icmpn_ge (pc := 24) (tgt := 57) (a := (wi + j)) (b := 4) dX3_readOne_24 (by decide) (by omega) (by decide) (fun c24 => ?_) (fun c24 => ?_)
  · skip
    first
    | exact X.keep [0, 1, 2] rfl (l_rO0a hG hx hb (Or.inr hc) hs hl K1 K0)
    | exact X.keep [0, 1, 2] rfl (l_rO0a hG hx hb (Or.inl (by omega)) hs hl K1 K0)
  · skip
    refine x_aload_n (pc := 27) dX3_readOne_27 rfl rfl ?_
    refine x_bipush (pc := 28) (v := 40) dX3_readOne_28 (by decide) ?_
    refine x_callV (pc := 30) (As := [.int _]) dX3_readOne_30 km_X3_accept kv_X3_accept kl_RX3_34 hG.g_rd rfl rfl (by decide) ⟨Nat.le_refl _, Nat.le_refl _⟩ rfl (Nat.le_of_ble_eq_true rfl) (Nat.le_of_ble_eq_true rfl) (c_accept (c := 40) hG hs.1 hx hs.2.1 hs.2.2.1 (by decide) (fun hc hlt => ⟨rfl, rfl, ?_⟩) (fun hc => ⟨rfl, rfl, ?_⟩))
    · skip
      refine x_if_eq_f (pc := 33) (tgt := 57) dX3_readOne_33 (by decide) (by decide) ?_
      refine x_aload_n (pc := 36) dX3_readOne_36 rfl rfl ?_
      refine x_iload_n (pc := 37) dX3_readOne_37 rfl rfl ?_
      refine x_iconst (pc := 38) (v := 1) dX3_readOne_38 (by decide) ?_
      refine x_iaddn (pc := 39) (a := (wi + j)) (b := 1) dX3_readOne_39 ?_
      refine x_callV (pc := 40) (As := [.int _]) dX3_readOne_40 km_X3_readEither kv_X3_readEither kl_RX3_66 hG.g_rd rfl rfl (by decide) ⟨Nat.le_refl _, Nat.le_refl _⟩ rfl (Nat.le_of_ble_eq_true rfl) (Nat.le_of_ble_eq_true rfl) (c_readEither1 (wi := wi + j + 1) hG hx (hs.nx hlt) (by omega) (by omega) (fun J q e h1 h2 fJ => ⟨rfl, rfl, ?_⟩) (fun J q h1 h2 fJ => ⟨rfl, rfl, ?_⟩))
      · skip
        refine x_if_eq_f (pc := 43) (tgt := 55) dX3_readOne_43 (by decide) (by decide) ?_
        refine x_aload_n (pc := 46) dX3_readOne_46 rfl rfl ?_
        refine x_bipush (pc := 47) (v := 41) dX3_readOne_47 (by decide) ?_
        refine x_callV (pc := 49) (As := [.int _]) dX3_readOne_49 km_X3_accept kv_X3_accept kl_RX3_34 hG.g_rd rfl rfl (by decide) ⟨Nat.le_refl _, Nat.le_refl _⟩ rfl (Nat.le_of_ble_eq_true rfl) (Nat.le_of_ble_eq_true rfl) (c_accept (c := 41) hG h2.1 hx h2.2.1 h2.2.2.1 (by decide) (fun hc2 hlt2 => ⟨rfl, rfl, ?_⟩) (fun hc2 => ⟨rfl, rfl, ?_⟩))
        · skip
          refine x_if_ne_t (pc := 52) (tgt := 183) dX3_readOne_52 (by decide) (by decide) ?_
          have g3 : p + j + 1 + e.1.length ≤ q := (pd_gd h1 e rfl).2.2.1
          exact X.keep [0, 1, 2] rfl (l_rO0e (p := p) (j := j) (e := e) hG hx (h2.nx hlt2) hb.1 (by omega) (fun J3 hs4 f3 => K1 J3 (q + 1) _ (PD.pok hb (by omega) hc h1 hc2) hs4 (((rdP.nx.tr fJ).tr rdP.nx).tr f3)))
        · skip
          refine x_if_ne_f (pc := 52) (tgt := 183) dX3_readOne_52 (by decide) (by decide) ?_
          refine x_iconst (pc := 55) (v := 0) dX3_readOne_55 (by decide) ?_
          refine x_ireturn (pc := 56) dX3_readOne_56 ⟨_, rfl, by decide⟩ ⟨Nat.le_refl _, Nat.le_refl _⟩ ?_
          first
          | exact K0 _ _ (PD.popen hb (by omega) hc h1 hc2) h2.x (rdP.nx.tr fJ)
          | exact K0 _ _ (PD.pbad hb (by omega) hc h1) h2 (rdP.nx.tr fJ)
      · skip
        refine x_if_eq_t (pc := 43) (tgt := 55) dX3_readOne_43 (by decide) (by decide) ?_
        refine x_iconst (pc := 55) (v := 0) dX3_readOne_55 (by decide) ?_
        refine x_ireturn (pc := 56) dX3_readOne_56 ⟨_, rfl, by decide⟩ ⟨Nat.le_refl _, Nat.le_refl _⟩ ?_
        first
        | exact K0 _ _ (PD.popen hb (by omega) hc h1 hc2) h2.x (rdP.nx.tr fJ)
        | exact K0 _ _ (PD.pbad hb (by omega) hc h1) h2 (rdP.nx.tr fJ)
    · skip
      refine x_if_eq_t (pc := 33) (tgt := 57) dX3_readOne_33 (by decide) (by decide) ?_
      first
      | exact X.keep [0, 1, 2] rfl (l_rO0a hG hx hb (Or.inr hc) hs hl K1 K0)
      | exact X.keep [0, 1, 2] rfl (l_rO0a hG hx hb (Or.inl (by omega)) hs hl K1 K0)

set_option maxHeartbeats 4000000 in
set_option maxRecDepth 100000 in
theorem c_readOne0 {T : xT} {n : Nat} {sh : Nat → Nat × Nat} {I : xI} {R : xR} {L : xL} {P : xPost} {lr nw im tr rd hu se ac M : Nat} (hG : GEO sh R lr nw im tr rd hu se ac M) {t : xX} (hx : XOK t) {p wi : Nat} {l : List (Nat × Nat × Nat)} (hs : RDS I rd t p l) (hk : 0 ≤ wi) (hw4 : wi ≤ 4) (K1 : ∀ (J : xI) (q : Nat) (e : xCE), PD (nxX t) 0 wi p none (q, some e) → RDS J rd t q (l ++ e.1) → rdP rd I J → P (n, sh, 0, 0) J R L (some (.int 1))) (K0 : ∀ (J : xI) (q : Nat), PD (nxX t) 0 wi p none (q, none) → RDX J rd t q → rdP rd I J → P (n, sh, 0, 0) J R L (some (.int 0)))  : XM T zX3_readOne 14 [.ref rd, .int (nI wi)] n sh I R L P := by
  refine x_iload_n (pc := 0) dX3_readOne_0 rfl rfl ?_
  refine x_istore_n (pc := 1) (lv' := [(0, .ref rd), (1, .int (nI wi)), (2, .int (nI wi))]) dX3_readOne_1 rfl (by decide) rfl ?_
  exact X.keep [0, 1, 2] rfl (l_rO0 hG hx hw4 (fun J j hb hs2 fj => l_rO0d hG hx hb hs2 hs.2.2.2.2 hk (fun J2 q e g1 g2 g3 => K1 J2 q e g1 g2 (fj.tr g3)) (fun J2 q g1 g2 g3 => K0 J2 q g1 g2 (fj.tr g3))) (4 - wi) 0 (by omega) I hs (fun k q => absurd q (by omega)) rdP.rf)

set_option maxHeartbeats 4000000 in
set_option maxRecDepth 100000 in
theorem l_rB0z {T : xT} {n : Nat} {sh : Nat → Nat × Nat} {I : xI} {R : xR} {L : xL} {P : xPost} {lr nw im tr rd hu se ac M : Nat} (hG : GEO sh R lr nw im tr rd hu se ac M) {t : xX} (hx : XOK t) {p wi : Nat} {l : List (Nat × Nat × Nat)} {i : Nat} (hi : i ≤ 100) (K : P (n, sh, 0, 0) I R L (some (.int 0)))  :  X T zX3_readBoth 15 0 0 P 8 [(0, .ref rd), (1, .int (nI wi)), (2, .int 0), (3, .int (nI i))] [] (n, sh, 0, 0) (I) R L := by
  refine x_iload_n (pc := 8) dX3_readBoth_8 rfl rfl ?_
  refine x_bipush (pc := 9) (v := 100) dX3_readBoth_9 (by decide) ?_
  refine x_icmpn_ge (pc := 11) (tgt := 50) (a := i) (b := 100) dX3_readBoth_11 (by decide) (by omega) (by decide) (fun c11 => ?_) (fun c11 => ?_)
  · skip
    refine x_iload_n (pc := 50) dX3_readBoth_50 rfl rfl ?_
    refine x_ireturn (pc := 51) dX3_readBoth_51 ⟨_, rfl, by decide⟩ ⟨Nat.le_refl _, Nat.le_refl _⟩ ?_
    exact K
  · skip
    refine x_iload_n (pc := 14) dX3_readBoth_14 rfl rfl ?_
    refine x_if_eq_t (pc := 15) (tgt := 50) dX3_readBoth_15 (by decide) (by decide) ?_
    refine x_iload_n (pc := 50) dX3_readBoth_50 rfl rfl ?_
    refine x_ireturn (pc := 51) dX3_readBoth_51 ⟨_, rfl, by decide⟩ ⟨Nat.le_refl _, Nat.le_refl _⟩ ?_
    exact K

set_option maxHeartbeats 4000000 in
set_option maxRecDepth 100000 in
theorem l_rB0 {T : xT} {n : Nat} {sh : Nat → Nat × Nat} {I : xI} {R : xR} {L : xL} {P : xPost} {lr nw im tr rd hu se ac M : Nat} (hG : GEO sh R lr nw im tr rd hu se ac M) {t : xX} (hx : XOK t) {p wi : Nat} {l : List (Nat × Nat × Nat)} (hk : 0 ≤ wi) (hw4 : wi ≤ 4) (K1 : ∀ (J : xI) (q : Nat) (e : xCE), PD (nxX t) 1 wi p none (q, some e) → nxX t q ≠ 38 → RDS J rd t q (l ++ e.1) → rdP rd I J → P (n, sh, 0, 0) J R L (some (.int 1))) (K0 : ∀ (J : xI) (q : Nat), PD (nxX t) 1 wi p none (q, none) → RDX J rd t q → rdP rd I J → P (n, sh, 0, 0) J R L (some (.int 0)))  : ∀ (w i : Nat), i + w = 100 → ∀ (J : xI) (q : Nat) (e : xCE), RDS J rd t q (l ++ e.1) → i ≤ q → (∀ r, PD (nxX t) 2 wi q (some e) r → PD (nxX t) 1 wi p none r) → rdP rd I J → X T zX3_readBoth 15 0 0 P 8 [(0, .ref rd), (1, .int (nI wi)), (2, .int 1), (3, .int (nI i))] [] (n, sh, 0, 0) (J) R L := by
  have x100 := hx.1
  intro w
  induction w with
  | zero =>
    intro i hw J q e hs hiq hct fj
    have hz : i = 100 := by omega
    refine x_iload_n (pc := 8) dX3_readBoth_8 rfl rfl ?_
    refine x_bipush (pc := 9) (v := 100) dX3_readBoth_9 (by decide) ?_
    refine x_icmpn_ge_t (pc := 11) (tgt := 50) (a := i) (b := 100) dX3_readBoth_11 (by decide) (by omega) (by decide) (by omega) ?_
    refine x_iload_n (pc := 50) dX3_readBoth_50 rfl rfl ?_
    refine x_ireturn (pc := 51) dX3_readBoth_51 ⟨_, rfl, by decide⟩ ⟨Nat.le_refl _, Nat.le_refl _⟩ ?_
    have hn : nxX t q ≠ 38 := by
      show (if q < t.1 then t.2 q else 256) ≠ 38
      rw [if_neg (by omega)]
      decide
    exact K1 J q e (hct _ (PD.Lend hn)) hn hs fj
  | succ w ih =>
    intro i hw J q e hs hiq hct fj
    have hi : i < 100 := by omega
    refine x_iload_n (pc := 8) dX3_readBoth_8 rfl rfl ?_
    refine x_bipush (pc := 9) (v := 100) dX3_readBoth_9 (by decide) ?_
    refine x_icmpn_ge_f (pc := 11) (tgt := 50) (a := i) (b := 100) dX3_readBoth_11 (by decide) (by omega) (by decide) (by omega) ?_
    refine x_iload_n (pc := 14) dX3_readBoth_14 rfl rfl ?_
    refine x_if_eq_f (pc := 15) (tgt := 50) dX3_readBoth_15 (by decide) (by decide) ?_
    refine x_aload_n (pc := 18) dX3_readBoth_18 rfl rfl ?_
    refine x_bipush (pc := 19) (v := 38) dX3_readBoth_19 (by decide) ?_
    refine x_callV (pc := 21) (As := [.int _]) dX3_readBoth_21 km_X3_accept kv_X3_accept kl_RX3_34 hG.g_rd rfl rfl (by decide) ⟨Nat.le_refl _, Nat.le_refl _⟩ rfl (Nat.le_of_ble_eq_true rfl) (Nat.le_of_ble_eq_true rfl) (c_accept (c := 38) hG hs.1 hx hs.2.1 hs.2.2.1 (by decide) (fun hc hlt => ⟨rfl, rfl, ?_⟩) (fun hc => ⟨rfl, rfl, ?_⟩))
    · skip
      refine x_if_eq_f (pc := 24) (tgt := 50) dX3_readBoth_24 (by decide) (by decide) ?_
      refine x_aload_n (pc := 27) dX3_readBoth_27 rfl rfl ?_
      refine x_iload_n (pc := 28) dX3_readBoth_28 rfl rfl ?_
      refine x_callV (pc := 29) (As := [.int _]) dX3_readBoth_29 km_X3_readOne kv_X3_readOne kl_RX3_76 hG.g_rd rfl rfl (by decide) ⟨Nat.le_refl _, Nat.le_refl _⟩ rfl (Nat.le_of_ble_eq_true rfl) (Nat.le_of_ble_eq_true rfl) (c_readOne0 hG hx (hs.nx hlt) hk hw4 (fun J2 q2 e2 h1 h2 f2 => ⟨rfl, rfl, ?_⟩) (fun J2 q2 h1 h2 f2 => ⟨rfl, rfl, ?_⟩))
      · skip
        refine x_istore_n (pc := 32) (lv' := [(0, .ref rd), (1, .int (nI wi)), (2, .int 1), (3, .int (nI i))]) dX3_readBoth_32 rfl (by decide) rfl ?_
        refine x_aload_n (pc := 33) dX3_readBoth_33 rfl rfl ?_
        refine x_getr (pc := 34) dX3_readBoth_34 kf_RX3_23 hG.g_rd rfl hG.g_rd1 ?_
        refine x_bipush (pc := 37) (v := 38) dX3_readBoth_37 (by decide) ?_
        refine x_iconst (pc := 39) (v := 0) dX3_readBoth_39 (by decide) ?_
        refine x_iconst (pc := 40) (v := 0) dX3_readBoth_40 (by decide) ?_
        refine x_callV (pc := 41) (As := [.int _, .int _, .int _]) dX3_readBoth_41 km_X4_add kv_X4_add kl_RX3_69 hG.g_draft.1 rfl rfl (by decide) ⟨Nat.le_refl _, Nat.le_refl _⟩ rfl (Nat.le_of_ble_eq_true rfl) (Nat.le_of_ble_eq_true rfl) (c_rgAdd (p := 38) (s := 0) (k := 0) hG.g_draft h2.2.2.2.1 (fun J3 d3 f3 => ⟨rfl, rfl, ?_⟩))
        refine x_iinc (pc := 44) (v := nI (i + 1)) (lv' := [(0, .ref rd), (1, .int (nI wi)), (2, .int 1), (3, .int (nI (i + 1)))]) dX3_readBoth_44 rfl (nI_1 _) (by decide) rfl ?_
        refine x_goto (pc := 47) (tgt := 8) dX3_readBoth_47 (by decide) ?_
        have g3 : q + 1 + e2.1.length ≤ q2 := (pd_gd h1 e2 rfl).2.2.1
        have hll := hs.2.2.2.2
        refine ih (i + 1) (by omega) J3 q2 (eA e e2) (h2.ad hx f3 d3 (by rw [List.length_append]; omega) ?_) (by omega) (fun r hr => hct r (PD.Lgo hc h1 hr)) (((fj.tr rdP.nx).tr f2).tr (rdP.rg f3))
        show l ++ (e.1 ++ e2.1 ++ [(38, 0, 0)]) = l ++ e.1 ++ e2.1 ++ [(38, 0, 0)]
        rw [← List.append_assoc, ← List.append_assoc]
      · skip
        refine x_istore_n (pc := 32) (lv' := [(0, .ref rd), (1, .int (nI wi)), (2, .int 0), (3, .int (nI i))]) dX3_readBoth_32 rfl (by decide) rfl ?_
        refine x_aload_n (pc := 33) dX3_readBoth_33 rfl rfl ?_
        refine x_getr (pc := 34) dX3_readBoth_34 kf_RX3_23 hG.g_rd rfl hG.g_rd1 ?_
        refine x_bipush (pc := 37) (v := 38) dX3_readBoth_37 (by decide) ?_
        refine x_iconst (pc := 39) (v := 0) dX3_readBoth_39 (by decide) ?_
        refine x_iconst (pc := 40) (v := 0) dX3_readBoth_40 (by decide) ?_
        refine x_callV (pc := 41) (As := [.int _, .int _, .int _]) dX3_readBoth_41 km_X4_add kv_X4_add kl_RX3_69 hG.g_draft.1 rfl rfl (by decide) ⟨Nat.le_refl _, Nat.le_refl _⟩ rfl (Nat.le_of_ble_eq_true rfl) (Nat.le_of_ble_eq_true rfl) (c_rgAdd (p := 38) (s := 0) (k := 0) hG.g_draft h2.2.2.2.choose_spec (fun J3 d3 f3 => ⟨rfl, rfl, ?_⟩))
        refine x_iinc (pc := 44) (v := nI (i + 1)) (lv' := [(0, .ref rd), (1, .int (nI wi)), (2, .int 0), (3, .int (nI (i + 1)))]) dX3_readBoth_44 rfl (nI_1 _) (by decide) rfl ?_
        refine x_goto (pc := 47) (tgt := 8) dX3_readBoth_47 (by decide) ?_
        exact l_rB0z hG hx (p := p) (l := l) (t := t) (wi := wi) (i := i + 1) (by omega) (K0 J3 q2 (hct _ (PD.Lbad hc h1)) (h2.ad f3 d3) (((fj.tr rdP.nx).tr f2).tr (rdP.rg f3)))
    · skip
      refine x_if_eq_t (pc := 24) (tgt := 50) dX3_readBoth_24 (by decide) (by decide) ?_
      refine x_iload_n (pc := 50) dX3_readBoth_50 rfl rfl ?_
      refine x_ireturn (pc := 51) dX3_readBoth_51 ⟨_, rfl, by decide⟩ ⟨Nat.le_refl _, Nat.le_refl _⟩ ?_
      have hn : nxX t q ≠ 38 := hc
      exact K1 J q e (hct _ (PD.Lend hn)) hn hs fj

set_option maxHeartbeats 4000000 in
set_option maxRecDepth 100000 in
theorem c_readBoth0 {T : xT} {n : Nat} {sh : Nat → Nat × Nat} {I : xI} {R : xR} {L : xL} {P : xPost} {lr nw im tr rd hu se ac M : Nat} (hG : GEO sh R lr nw im tr rd hu se ac M) {t : xX} (hx : XOK t) {p wi : Nat} {l : List (Nat × Nat × Nat)} (hs : RDS I rd t p l) (hk : 0 ≤ wi) (hw4 : wi ≤ 4) (K1 : ∀ (J : xI) (q : Nat) (e : xCE), PD (nxX t) 1 wi p none (q, some e) → nxX t q ≠ 38 → RDS J rd t q (l ++ e.1) → rdP rd I J → P (n, sh, 0, 0) J R L (some (.int 1))) (K0 : ∀ (J : xI) (q : Nat), PD (nxX t) 1 wi p none (q, none) → RDX J rd t q → rdP rd I J → P (n, sh, 0, 0) J R L (some (.int 0)))  : XM T zX3_readBoth 15 [.ref rd, .int (nI wi)] n sh I R L P := by
  refine x_aload_n (pc := 0) dX3_readBoth_0 rfl rfl ?_
  refine x_iload_n (pc := 1) dX3_readBoth_1 rfl rfl ?_
  refine x_callV (pc := 2) (As := [.int _]) dX3_readBoth_2 km_X3_readOne kv_X3_readOne kl_RX3_76 hG.g_rd rfl rfl (by decide) ⟨Nat.le_refl _, Nat.le_refl _⟩ rfl (Nat.le_of_ble_eq_true rfl) (Nat.le_of_ble_eq_true rfl) (c_readOne0 hG hx hs hk hw4 (fun J q e h1 h2 f2 => ⟨rfl, rfl, ?_⟩) (fun J q h1 h2 f2 => ⟨rfl, rfl, ?_⟩))
  · skip
    refine x_istore_n (pc := 5) (lv' := [(0, .ref rd), (1, .int (nI wi)), (2, .int 1)]) dX3_readBoth_5 rfl (by decide) rfl ?_
    refine x_iconst (pc := 6) (v := 0) dX3_readBoth_6 (by decide) ?_
    refine x_istore_n (pc := 7) (lv' := [(0, .ref rd), (1, .int (nI wi)), (2, .int 1), (3, .int 0)]) dX3_readBoth_7 rfl (by decide) rfl ?_
    exact l_rB0 hG hx hk hw4 K1 K0 100 0 (by omega) J q e h2 (by omega) (fun r hr => PD.Tgo h1 hr) f2
  · skip
    refine x_istore_n (pc := 5) (lv' := [(0, .ref rd), (1, .int (nI wi)), (2, .int 0)]) dX3_readBoth_5 rfl (by decide) rfl ?_
    refine x_iconst (pc := 6) (v := 0) dX3_readBoth_6 (by decide) ?_
    refine x_istore_n (pc := 7) (lv' := [(0, .ref rd), (1, .int (nI wi)), (2, .int 0), (3, .int 0)]) dX3_readBoth_7 rfl (by decide) rfl ?_
    exact l_rB0z hG hx (p := p) (l := l) (t := t) (wi := wi) (i := 0) (by omega) (K0 J q (PD.Tbad h1) h2 f2)

set_option maxHeartbeats 4000000 in
set_option maxRecDepth 100000 in
theorem l_rE0z {T : xT} {n : Nat} {sh : Nat → Nat × Nat} {I : xI} {R : xR} {L : xL} {P : xPost} {lr nw im tr rd hu se ac M : Nat} (hG : GEO sh R lr nw im tr rd hu se ac M) {t : xX} (hx : XOK t) {p wi : Nat} {l : List (Nat × Nat × Nat)} {i : Nat} (hi : i ≤ 100) (K : P (n, sh, 0, 0) I R L (some (.int 0)))  :  X T zX3_readEither 16 0 0 P 8 [(0, .ref rd), (1, .int (nI wi)), (2, .int 0), (3, .int (nI i))] [] (n, sh, 0, 0) (I) R L := by
  refine x_iload_n (pc := 8) dX3_readEither_8 rfl rfl ?_
  refine x_bipush (pc := 9) (v := 100) dX3_readEither_9 (by decide) ?_
  refine x_icmpn_ge (pc := 11) (tgt := 50) (a := i) (b := 100) dX3_readEither_11 (by decide) (by omega) (by decide) (fun c11 => ?_) (fun c11 => ?_)
  · skip
    refine x_iload_n (pc := 50) dX3_readEither_50 rfl rfl ?_
    refine x_ireturn (pc := 51) dX3_readEither_51 ⟨_, rfl, by decide⟩ ⟨Nat.le_refl _, Nat.le_refl _⟩ ?_
    exact K
  · skip
    refine x_iload_n (pc := 14) dX3_readEither_14 rfl rfl ?_
    refine x_if_eq_t (pc := 15) (tgt := 50) dX3_readEither_15 (by decide) (by decide) ?_
    refine x_iload_n (pc := 50) dX3_readEither_50 rfl rfl ?_
    refine x_ireturn (pc := 51) dX3_readEither_51 ⟨_, rfl, by decide⟩ ⟨Nat.le_refl _, Nat.le_refl _⟩ ?_
    exact K

set_option maxHeartbeats 4000000 in
set_option maxRecDepth 100000 in
theorem l_rE0 {T : xT} {n : Nat} {sh : Nat → Nat × Nat} {I : xI} {R : xR} {L : xL} {P : xPost} {lr nw im tr rd hu se ac M : Nat} (hG : GEO sh R lr nw im tr rd hu se ac M) {t : xX} (hx : XOK t) {p wi : Nat} {l : List (Nat × Nat × Nat)} (hk : 0 ≤ wi) (hw4 : wi ≤ 4) (K1 : ∀ (J : xI) (q : Nat) (e : xCE), PD (nxX t) 3 wi p none (q, some e) → RDS J rd t q (l ++ e.1) → rdP rd I J → P (n, sh, 0, 0) J R L (some (.int 1))) (K0 : ∀ (J : xI) (q : Nat), PD (nxX t) 3 wi p none (q, none) → RDX J rd t q → rdP rd I J → P (n, sh, 0, 0) J R L (some (.int 0)))  : ∀ (w i : Nat), i + w = 100 → ∀ (J : xI) (q : Nat) (e : xCE), nxX t q ≠ 38 → RDS J rd t q (l ++ e.1) → i ≤ q → (∀ r, PD (nxX t) 4 wi q (some e) r → PD (nxX t) 3 wi p none r) → rdP rd I J → X T zX3_readEither 16 0 0 P 8 [(0, .ref rd), (1, .int (nI wi)), (2, .int 1), (3, .int (nI i))] [] (n, sh, 0, 0) (J) R L := by
  have x100 := hx.1
  intro w
  induction w with
  | zero =>
    intro i hw J q e hn8 hs hiq hct fj
    have hz : i = 100 := by omega
    refine x_iload_n (pc := 8) dX3_readEither_8 rfl rfl ?_
    refine x_bipush (pc := 9) (v := 100) dX3_readEither_9 (by decide) ?_
    refine x_icmpn_ge_t (pc := 11) (tgt := 50) (a := i) (b := 100) dX3_readEither_11 (by decide) (by omega) (by decide) (by omega) ?_
    refine x_iload_n (pc := 50) dX3_readEither_50 rfl rfl ?_
    refine x_ireturn (pc := 51) dX3_readEither_51 ⟨_, rfl, by decide⟩ ⟨Nat.le_refl _, Nat.le_refl _⟩ ?_
    have hn : nxX t q ≠ 124 := by
      show (if q < t.1 then t.2 q else 256) ≠ 124
      rw [if_neg (by omega)]
      decide
    exact K1 J q e (hct _ (PD.Mend hn8 hn)) hs fj
  | succ w ih =>
    intro i hw J q e hn8 hs hiq hct fj
    have hi : i < 100 := by omega
    refine x_iload_n (pc := 8) dX3_readEither_8 rfl rfl ?_
    refine x_bipush (pc := 9) (v := 100) dX3_readEither_9 (by decide) ?_
    refine x_icmpn_ge_f (pc := 11) (tgt := 50) (a := i) (b := 100) dX3_readEither_11 (by decide) (by omega) (by decide) (by omega) ?_
    refine x_iload_n (pc := 14) dX3_readEither_14 rfl rfl ?_
    refine x_if_eq_f (pc := 15) (tgt := 50) dX3_readEither_15 (by decide) (by decide) ?_
    refine x_aload_n (pc := 18) dX3_readEither_18 rfl rfl ?_
    refine x_bipush (pc := 19) (v := 124) dX3_readEither_19 (by decide) ?_
    refine x_callV (pc := 21) (As := [.int _]) dX3_readEither_21 km_X3_accept kv_X3_accept kl_RX3_34 hG.g_rd rfl rfl (by decide) ⟨Nat.le_refl _, Nat.le_refl _⟩ rfl (Nat.le_of_ble_eq_true rfl) (Nat.le_of_ble_eq_true rfl) (c_accept (c := 124) hG hs.1 hx hs.2.1 hs.2.2.1 (by decide) (fun hc hlt => ⟨rfl, rfl, ?_⟩) (fun hc => ⟨rfl, rfl, ?_⟩))
    · skip
      refine x_if_eq_f (pc := 24) (tgt := 50) dX3_readEither_24 (by decide) (by decide) ?_
      refine x_aload_n (pc := 27) dX3_readEither_27 rfl rfl ?_
      refine x_iload_n (pc := 28) dX3_readEither_28 rfl rfl ?_
      refine x_callV (pc := 29) (As := [.int _]) dX3_readEither_29 km_X3_readBoth kv_X3_readBoth kl_RX3_73 hG.g_rd rfl rfl (by decide) ⟨Nat.le_refl _, Nat.le_refl _⟩ rfl (Nat.le_of_ble_eq_true rfl) (Nat.le_of_ble_eq_true rfl) (c_readBoth0 hG hx (hs.nx hlt) hk hw4 (fun J2 q2 e2 h1 hn2 h2 f2 => ⟨rfl, rfl, ?_⟩) (fun J2 q2 h1 h2 f2 => ⟨rfl, rfl, ?_⟩))
      · skip
        refine x_istore_n (pc := 32) (lv' := [(0, .ref rd), (1, .int (nI wi)), (2, .int 1), (3, .int (nI i))]) dX3_readEither_32 rfl (by decide) rfl ?_
        refine x_aload_n (pc := 33) dX3_readEither_33 rfl rfl ?_
        refine x_getr (pc := 34) dX3_readEither_34 kf_RX3_23 hG.g_rd rfl hG.g_rd1 ?_
        refine x_bipush (pc := 37) (v := 124) dX3_readEither_37 (by decide) ?_
        refine x_iconst (pc := 39) (v := 0) dX3_readEither_39 (by decide) ?_
        refine x_iconst (pc := 40) (v := 0) dX3_readEither_40 (by decide) ?_
        refine x_callV (pc := 41) (As := [.int _, .int _, .int _]) dX3_readEither_41 km_X4_add kv_X4_add kl_RX3_69 hG.g_draft.1 rfl rfl (by decide) ⟨Nat.le_refl _, Nat.le_refl _⟩ rfl (Nat.le_of_ble_eq_true rfl) (Nat.le_of_ble_eq_true rfl) (c_rgAdd (p := 124) (s := 0) (k := 0) hG.g_draft h2.2.2.2.1 (fun J3 d3 f3 => ⟨rfl, rfl, ?_⟩))
        refine x_iinc (pc := 44) (v := nI (i + 1)) (lv' := [(0, .ref rd), (1, .int (nI wi)), (2, .int 1), (3, .int (nI (i + 1)))]) dX3_readEither_44 rfl (nI_1 _) (by decide) rfl ?_
        refine x_goto (pc := 47) (tgt := 8) dX3_readEither_47 (by decide) ?_
        have g3 : q + 1 + e2.1.length ≤ q2 := (pd_gd h1 e2 rfl).2.2.1
        have hll := hs.2.2.2.2
        refine ih (i + 1) (by omega) J3 q2 (eO e e2) hn2 (h2.ad hx f3 d3 (by rw [List.length_append]; omega) ?_) (by omega) (fun r hr => hct r (PD.Mgo hc h1 hr)) (((fj.tr rdP.nx).tr f2).tr (rdP.rg f3))
        show l ++ (e.1 ++ e2.1 ++ [(124, 0, 0)]) = l ++ e.1 ++ e2.1 ++ [(124, 0, 0)]
        rw [← List.append_assoc, ← List.append_assoc]
      · skip
        refine x_istore_n (pc := 32) (lv' := [(0, .ref rd), (1, .int (nI wi)), (2, .int 0), (3, .int (nI i))]) dX3_readEither_32 rfl (by decide) rfl ?_
        refine x_aload_n (pc := 33) dX3_readEither_33 rfl rfl ?_
        refine x_getr (pc := 34) dX3_readEither_34 kf_RX3_23 hG.g_rd rfl hG.g_rd1 ?_
        refine x_bipush (pc := 37) (v := 124) dX3_readEither_37 (by decide) ?_
        refine x_iconst (pc := 39) (v := 0) dX3_readEither_39 (by decide) ?_
        refine x_iconst (pc := 40) (v := 0) dX3_readEither_40 (by decide) ?_
        refine x_callV (pc := 41) (As := [.int _, .int _, .int _]) dX3_readEither_41 km_X4_add kv_X4_add kl_RX3_69 hG.g_draft.1 rfl rfl (by decide) ⟨Nat.le_refl _, Nat.le_refl _⟩ rfl (Nat.le_of_ble_eq_true rfl) (Nat.le_of_ble_eq_true rfl) (c_rgAdd (p := 124) (s := 0) (k := 0) hG.g_draft h2.2.2.2.choose_spec (fun J3 d3 f3 => ⟨rfl, rfl, ?_⟩))
        refine x_iinc (pc := 44) (v := nI (i + 1)) (lv' := [(0, .ref rd), (1, .int (nI wi)), (2, .int 0), (3, .int (nI (i + 1)))]) dX3_readEither_44 rfl (nI_1 _) (by decide) rfl ?_
        refine x_goto (pc := 47) (tgt := 8) dX3_readEither_47 (by decide) ?_
        exact l_rE0z hG hx (p := p) (l := l) (t := t) (wi := wi) (i := i + 1) (by omega) (K0 J3 q2 (hct _ (PD.Mbad hc h1)) (h2.ad f3 d3) (((fj.tr rdP.nx).tr f2).tr (rdP.rg f3)))
    · skip
      refine x_if_eq_t (pc := 24) (tgt := 50) dX3_readEither_24 (by decide) (by decide) ?_
      refine x_iload_n (pc := 50) dX3_readEither_50 rfl rfl ?_
      refine x_ireturn (pc := 51) dX3_readEither_51 ⟨_, rfl, by decide⟩ ⟨Nat.le_refl _, Nat.le_refl _⟩ ?_
      have hn : nxX t q ≠ 124 := hc
      exact K1 J q e (hct _ (PD.Mend hn8 hn)) hs fj

set_option maxHeartbeats 4000000 in
set_option maxRecDepth 100000 in
theorem c_readEither0 {T : xT} {n : Nat} {sh : Nat → Nat × Nat} {I : xI} {R : xR} {L : xL} {P : xPost} {lr nw im tr rd hu se ac M : Nat} (hG : GEO sh R lr nw im tr rd hu se ac M) {t : xX} (hx : XOK t) {p wi : Nat} {l : List (Nat × Nat × Nat)} (hs : RDS I rd t p l) (hk : 0 ≤ wi) (hw4 : wi ≤ 4) (K1 : ∀ (J : xI) (q : Nat) (e : xCE), PD (nxX t) 3 wi p none (q, some e) → RDS J rd t q (l ++ e.1) → rdP rd I J → P (n, sh, 0, 0) J R L (some (.int 1))) (K0 : ∀ (J : xI) (q : Nat), PD (nxX t) 3 wi p none (q, none) → RDX J rd t q → rdP rd I J → P (n, sh, 0, 0) J R L (some (.int 0)))  : XM T zX3_readEither 16 [.ref rd, .int (nI wi)] n sh I R L P := by
  refine x_aload_n (pc := 0) dX3_readEither_0 rfl rfl ?_
  refine x_iload_n (pc := 1) dX3_readEither_1 rfl rfl ?_
  refine x_callV (pc := 2) (As := [.int _]) dX3_readEither_2 km_X3_readBoth kv_X3_readBoth kl_RX3_73 hG.g_rd rfl rfl (by decide) ⟨Nat.le_refl _, Nat.le_refl _⟩ rfl (Nat.le_of_ble_eq_true rfl) (Nat.le_of_ble_eq_true rfl) (c_readBoth0 hG hx hs hk hw4 (fun J q e h1 hn2 h2 f2 => ⟨rfl, rfl, ?_⟩) (fun J q h1 h2 f2 => ⟨rfl, rfl, ?_⟩))
  · skip
    refine x_istore_n (pc := 5) (lv' := [(0, .ref rd), (1, .int (nI wi)), (2, .int 1)]) dX3_readEither_5 rfl (by decide) rfl ?_
    refine x_iconst (pc := 6) (v := 0) dX3_readEither_6 (by decide) ?_
    refine x_istore_n (pc := 7) (lv' := [(0, .ref rd), (1, .int (nI wi)), (2, .int 1), (3, .int 0)]) dX3_readEither_7 rfl (by decide) rfl ?_
    exact l_rE0 hG hx hk hw4 K1 K0 100 0 (by omega) J q e hn2 h2 (by omega) (fun r hr => PD.Ego h1 hr) f2
  · skip
    refine x_istore_n (pc := 5) (lv' := [(0, .ref rd), (1, .int (nI wi)), (2, .int 0)]) dX3_readEither_5 rfl (by decide) rfl ?_
    refine x_iconst (pc := 6) (v := 0) dX3_readEither_6 (by decide) ?_
    refine x_istore_n (pc := 7) (lv' := [(0, .ref rd), (1, .int (nI wi)), (2, .int 0), (3, .int 0)]) dX3_readEither_7 rfl (by decide) rfl ?_
    exact l_rE0z hG hx (p := p) (l := l) (t := t) (wi := wi) (i := 0) (by omega) (K0 J q (PD.Ebad h1) h2 f2)

