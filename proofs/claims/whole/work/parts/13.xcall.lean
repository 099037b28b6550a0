/-! ===== returns, and a method's contract out of X; calls ===== -/
section XRET
variable {T : xT} {Y : xY} {d CM SM : Nat} {P : xPost} {pc : Nat} {lv : List (Nat × Value)} {st : List Value} {g : xG} {I : xI} {R : xR} {L : xL}
theorem x_ireturn {x : Int32} (hd : decode Y.2.1 pc = .ok (.ireturn, 1)) (ht : ∃ ty, Y.2.2.2 = some ty ∧ narrow ty (.int x) = .int x) (hc : g.2.2.1 ≤ CM ∧ g.2.2.2 ≤ SM) (hP : P g I R L (some (.int x))) : X T Y d CM SM P pc lv [.int x] g I R L := by
  intro p l e Rm s m args below meth c Q dC dI dA ad adV A H locs ls C hl hr hx
  exact W.widen hc.1 hc.2 (hx g I R L ad (some (.int x)) H locs ls pc hP (xext.rf g ad) ⟨hd, ht⟩ hr)
theorem x_lreturn {x : Int64} (hd : decode Y.2.1 pc = .ok (.lreturn, 1)) (ht : Y.2.2.2 = some .long) (hc : g.2.2.1 ≤ CM ∧ g.2.2.2 ≤ SM) (hP : P g I R L (some (.long x))) : X T Y d CM SM P pc lv [.long x] g I R L := by
  intro p l e Rm s m args below meth c Q dC dI dA ad adV A H locs ls C hl hr hx
  exact W.widen hc.1 hc.2 (hx g I R L ad (some (.long x)) H locs ls pc hP (xext.rf g ad) ⟨hd, ht⟩ hr)
theorem x_areturn {x : Nat} (hd : decode Y.2.1 pc = .ok (.areturn, 1)) (ht : ∃ n, Y.2.2.2 = some (.object n)) (hc : g.2.2.1 ≤ CM ∧ g.2.2.2 ≤ SM) (hP : P g I R L (some (.ref x))) : X T Y d CM SM P pc lv [.ref x] g I R L := by
  intro p l e Rm s m args below meth c Q dC dI dA ad adV A H locs ls C hl hr hx
  exact W.widen hc.1 hc.2 (hx g I R L ad (some (.ref x)) H locs ls pc hP (xext.rf g ad) ⟨hd, ht⟩ hr)
theorem x_areturnN (hd : decode Y.2.1 pc = .ok (.areturn, 1)) (ht : ∃ n, Y.2.2.2 = some (.object n)) (hc : g.2.2.1 ≤ CM ∧ g.2.2.2 ≤ SM) (hP : P g I R L (some .null)) : X T Y d CM SM P pc lv [.null] g I R L := by
  intro p l e Rm s m args below meth c Q dC dI dA ad adV A H locs ls C hl hr hx
  exact W.widen hc.1 hc.2 (hx g I R L ad (some .null) H locs ls pc hP (xext.rf g ad) ⟨hd, ht⟩ hr)
theorem x_return (hd : decode Y.2.1 pc = .ok (.return_, 1)) (ht : Y.2.2.2 = none) (hc : g.2.2.1 ≤ CM ∧ g.2.2.2 ≤ SM) (hP : P g I R L none) : X T Y d CM SM P pc lv [] g I R L := by
  intro p l e Rm s m args below meth c Q dC dI dA ad adV A H locs ls C hl hr hx
  exact W.widen hc.1 hc.2 (hx g I R L ad none H locs ls pc hP (xext.rf g ad) ⟨hd, ht⟩ hr)
/-- what is shown for a longer wish is shown for a wider one -/
theorem X.mono {P' : xPost} (h : X T Y d CM SM P pc lv st g I R L) (hP : ∀ g' I' R' L' v, P g' I' R' L' v → P' g' I' R' L' v) : X T Y d CM SM P' pc lv st g I R L := by
  intro p l e Rm s m args below meth c Q dC dI dA ad adV A H locs ls C hl hr hx
  exact h p l e Rm s m args below meth c Q dC dI dA ad adV A H locs ls C hl hr (fun g' I' R' L' ad' v H' locs' ls' pc' q => hx g' I' R' L' ad' v H' locs' ls' pc' (hP _ _ _ _ _ q))
/-- other locals: those that are asked for are there -/
theorem X.locals {lv' : List (Nat × Value)} (hs : ∀ q ∈ lv', q ∈ lv) (h : X T Y d CM SM P pc lv' st g I R L) : X T Y d CM SM P pc lv st g I R L := by
  intro p l e Rm s m args below meth c Q dC dI dA ad adV A H locs ls C hl hr hx
  refine h p l e Rm s m args below meth c Q dC dI dA ad adV A H locs ls C (lv_fewer hl (fun q hq => ?_)) hr hx
  obtain ⟨r, h1, rfl⟩ := List.mem_map.mp hq
  exact List.mem_map.mpr ⟨r, hs r h1, rfl⟩
end XRET
theorem xZ.same {T : xT} {ad adV : Nat → Nat} {A : Nat → Prop} {u U : State} (hv : U.vm = u.vm) (hh : U.heap = u.heap) (h : xZ T ad adV A u u.heap) : xZ T ad adV A U U.heap := by
  have hW : u.vm.Alike U.vm := by rw [hv]; exact Vm.Alike.refl _
  rw [hh]
  obtain ⟨h1, h2, h3, h4, h5, h6, h7, h8, h9, h10, h11, h12⟩ := h
  exact ⟨h1.moved hW, h2, h3, h4.moved hW, h5.moved hW, h6.imp (fun h => h.moved hW) (fun h => h.moved hW), h7.same hv, h8.same hv, h9.same hv, h10.moved hW, h11.moved hW, fun q hq => va_Nw.same rfl hv.symm (h12 q hq)⟩
def xPc (T : xT) (dC : Nat → ClassId) (dI : Nat → Nat → Nat) (dA ad adV : Nat → Nat) (A : Nat → Prop) (As : List Value) (g : xG) (I : xI) (R : xR) (L : xL) : Array Value → State → Prop := fun av U =>
  av = (As.map (cV ad)).toArray ∧ va_P (dC, dI) vwCl (xw dA ad g I R L) U.heap ∧ va_D A (xw dA ad g I R L) ∧ va_K (dC, dI) vwCl (xty dA) U ∧ (∀ q, U.heap.size ≤ q → A q) ∧ xok g ∧ xZ T ad adV A U U.heap
def xQc (dC : Nat → ClassId) (dI : Nat → Nat → Nat) (dA ad : Nat → Nat) (A : Nat → Prop) (g : xG) (P : xPost) : Array Value → State → Outcome → State → Prop := fun _ st oc t =>
  (∃ (g' : xG) (I' : xI) (R' : xR) (L' : xL) (v : Option Value) (ad' : Nat → Nat), oc = .returned (v.map (cV ad')) ∧ P g' I' R' L' v ∧ xext g ad g' ad' ∧ xok g' ∧ va_P (dC, dI) vwCl (xw dA ad' g' I' R' L') t.heap ∧ va_D A (xw dA ad' g' I' R' L')) ∧ va_F A st t
theorem xPc_blind {T : xT} {dC : Nat → ClassId} {dI : Nat → Nat → Nat} {dA ad adV : Nat → Nat} {A : Nat → Prop} {As : List Value} {g : xG} {I : xI} {R : xR} {L : xL} : FrameBlind (xPc T dC dI dA ad adV A As g I R L) := by
  intro a U g' mk ⟨h1, h2, h3, h4, h5, h6, h7⟩
  exact ⟨h1, h2, h3, va_K.moved (u := U) (U := U.calling g' mk a) (Vm.Alike.refl U.vm) h4, h5, h6, xZ.same (u := U) (U := U.calling g' mk a) rfl rfl h7⟩
theorem xargs {ad : Nat → Nat} : ∀ (As : List Value) (i : Nat), lv_args i (As.map (cV ad)) = (lv_args i As).map (xq ad)
  | [], _ => rfl
  | v :: vs, i => by
    show (i, cV ad v) :: lv_args (if (cV ad v).category = 2 then i + 2 else i + 1) (vs.map (cV ad)) = (i, cV ad v) :: (lv_args (if v.category = 2 then i + 2 else i + 1) vs).map (xq ad)
    rw [cV_cat, xargs vs]
theorem xslots {ad : Nat → Nat} : ∀ (As : List Value), (lg_sl (As.map (cV ad))).length = (lg_sl As).length
  | [] => rfl
  | v :: vs => by
    have ih := xslots (ad := ad) vs
    unfold lg_sl at ih ⊢
    rw [List.map_cons, List.flatMap_cons, List.flatMap_cons, List.length_append, List.length_append, ih, cV_cat]
    by_cases h : v.category = 2 <;> simp [h]
abbrev xws (Y : xY) : List Cond := .code Y.1 Y.2.1 Y.2.2.1 Y.2.2.2 :: wsL_law
abbrev xrm (d mc ms : Nat) : Room := { frames := d, cells := mc, slots := ms, locals := 64 * d }
set_option maxHeartbeats 4000000 in
/-- a method's contract out of its walk -/
theorem xMet {T : xT} {Y : xY} {d CM SM : Nat} {P : xPost} {As : List Value} {n : Nat} {sh : Nat → Nat × Nat} {I : xI} {R : xR} {L : xL} (hy : plainName Y.1.cls = true) (hfit : (lg_sl As).length ≤ Y.2.2.1)
    (h : X T Y d CM SM P 0 (lv_args 0 As) [] (n, sh, 0, 0) I R L) (l : Launch) (dC : Nat → ClassId) (dI : Nat → Nat → Nat) (dA ad adV : Nat → Nat) (A : Nat → Prop) :
    Met l Y.1 (xws Y) (xrm d CM SM) (xPc T dC dI dA ad adV A As (n, sh, 0, 0) I R L) (xQc dC dI dA ad A (n, sh, 0, 0) P) CM SM A := by
  refine Met.ofW (cc := Y.2.1) (maxL := Y.2.2.1) (ret := Y.2.2.2) hy rfl ?_
  intro p e s m args below meth c s₁ B hml hv
  obtain ⟨rfl, hP, hD, hK, hA, hok, hZ⟩ := hv
  have hx := B.exec
  have hb := B.bytes
  have hrt := B.returns
  have hts := atoms_spec (ws := xws Y) B.pre
  have hown : s.vm.findClass Y.1.cls = some m.cls := findClass_of_methodNamed B.named
  have hlocks := B.notSynchronized
  have hin : meth.name = Y.1.name := (name_of_methodNamed B.named B.method).1
  have hl := lv_entry (As.map (cV ad)) (n := Y.2.2.1) (by rw [xslots]; exact hfit)
  rw [lg_entry_eq]
  generalize (lg_sl (As.map (cV ad)) ++ List.replicate (Y.2.2.1 - (lg_sl (As.map (cV ad))).length) Slot.unset).toArray = ls at hl ⊢
  rw [xargs] at hl
  refine h p l e (headSpec (xws Y) (xrm d CM SM)).room s m _ below meth c _ dC dI dA ad adV A s.heap [] ls ⟨hx, hb, hown, fun w hw => hts w (List.mem_cons_of_mem _ hw), hK, hA, ⟨Nat.le_refl _, Nat.le_refl _, Nat.le_refl _, Nat.le_refl _⟩, hZ, hml, hrt, hlocks, fun q => hin.trans q⟩ hl ⟨hP, hD, va_S.rf, hok⟩ ?_
  intro g' I' R' L' ad' v H' locs' ls' pc' hPp hext hret hrep
  obtain ⟨hP', hD', hS', hok'⟩ := hrep
  have post : ∀ t : State, t.heap = H' → s.WarmedH t.vm → xQc dC dI dA ad A (n, sh, 0, 0) P (As.map (cV ad)).toArray s (.returned (v.map (cV ad'))) t := fun t ht hW =>
    ⟨⟨g', I', R', L', v, ad', rfl, hPp, hext, hok', by rw [ht]; exact hP', hD'⟩, hS'.F ht⟩
  match v, hret with
  | none, hret => exact W.vret hx hb (hrt.trans hret.2) post hS'.2.2 hret.1
  | some (.int x), hret =>
    obtain ⟨h1, ty, h2, h3⟩ := hret
    exact W.zret hx hb (hrt.trans h2) h3 post hS'.2.2 h1
  | some (.long x), hret => exact W.lret hx hb (hrt.trans hret.2) post hS'.2.2 hret.1
  | some (.ref x), hret =>
    obtain ⟨h1, ty, h2⟩ := hret
    exact W.aret hx hb (hrt.trans h2) (Or.inl ⟨_, rfl⟩) (Or.inr ⟨_, rfl⟩) post hS'.2.2 h1
  | some .null, hret =>
    obtain ⟨h1, ty, h2⟩ := hret
    exact W.aret hx hb (hrt.trans h2) (Or.inl ⟨_, rfl⟩) (Or.inl rfl) post hS'.2.2 h1
def xpush : Option Value → List Value → List Value
  | some v, st => v :: st
  | none, st => st
theorem xgood : wsL_law.all goodWord = true := by decide +kernel
/-- what the tables say of a method: that it has its code; its words' place; n arguments -/
def xMth (Z : xY) (n : Nat) : Prop := Cond.code Z.1 Z.2.1 Z.2.2.1 Z.2.2.2 ∈ wsL_law ∧ Cond.initialized Z.1.cls ∈ wsL_law ∧ (Z.1.cls ≠ "java/lang/invoke/MethodHandle" ∧ Z.1.cls ≠ "java/lang/invoke/VarHandle" ∧ (parseMethodDescriptor Z.1.desc).map (fun d => d.parameters.length) = some n) ∧ plainName Z.1.cls = true ∧ Z.2.2.1 ≤ 44
def xVir (Z : xY) : Prop := Cond.instanceMethod Z.1 ∈ wsL_law ∧ Cond.selects Z.1.cls Z.1 Z.1 ∈ wsL_law
def xSta (Z : xY) : Prop := Cond.static Z.1 ∈ wsL_law
theorem xGoodIn {Z : xY} {n : Nat} (h : xMth Z n) : GoodIn wsL_law (xws Z) := by
  intro w hw
  rcases List.mem_cons.mp hw with rfl | hw
  · exact ⟨h.1, Or.inl rfl⟩
  · exact ⟨hw, good_of_word (List.all_eq_true.mp xgood w hw)⟩
section XCALL
variable {p : Program} {l : Launch} {e : Env} {Rm : Room} {s : State} {m : MethodId} {args : Array Value} {below : List Frame} {meth : Method} {c : Code} {H : Heap} {locs : List Loc} {cells slots mc ms : Nat} {Q : State → Prop} {pc : Nat} {ls : Array Slot} {st0 rest : List Value}
theorem x_after {dC : Nat → ClassId} {dI : Nat → Nat → Nat} {dA ad : Nat → Nat} {A : Nat → Prop} {g : xG} {P : xPost} {a : Array Value} (hr : va_Run p l e Rm s m args below meth c H locs cells slots mc ms (F0 m pc ls st0) rest (xQc dC dI dA ad A g P a) A) (hS : va_S A s.heap H locs)
    (kk : ∀ (g' : xG) (I' : xI) (R' : xR) (L' : xL) (v : Option Value) (ad' : Nat → Nat) (H1 : Heap) (locs1 : List Loc), P g' I' R' L' v → xext g ad g' ad' → xok g' → va_P (dC, dI) vwCl (xw dA ad' g' I' R' L') H1 → va_D A (xw dA ad' g' I' R' L') → va_S A s.heap H1 locs1 →
      W p l e Rm s m args below meth c H1 locs1 (cells + mc) (slots + ms) Q (F0 m (pc + 3) ls ((v.map (cV ad')).toList ++ rest))) : W p l e Rm s m args below meth c H locs cells slots Q (F0 m pc ls st0) := by
  intro T hT X
  obtain ⟨v, st₀, t, T', Lc, h0, X', hL, e1, e2, ⟨⟨g', I', R', L', w, ad', hv, hp, hext, hok, hP1, hD1⟩, hz, hk⟩, st⟩ := hr T hT X
  cases hv
  rw [h0] at hz hk
  obtain ⟨t2, a1, b1⟩ := kk g' I' R' L' w ad' T'.heap (locs ++ Lc) hp hext hok (by rw [e1]; exact hP1) hD1
    ⟨Nat.le_trans hS.1 (by rw [e1]; exact hz), fun q h1 h2 => by rw [e1, hk q (Nat.lt_of_lt_of_le h1 hS.1) h2]; exact hS.2.1 q h1 h2, fun q hq => by
      rcases List.mem_append.mp hq with h | h
      · exact hS.2.2 q h
      · exact hL q h⟩ T' rfl X'
  exact ⟨t2, st t2 a1, b1⟩
end XCALL
section XCALLS
variable {T : xT} {Y Z : xY} {d d' CM SM : Nat} {P : xPost} {pc : Nat} {lv : List (Nat × Value)} {st stk As : List Value} {g : xG} {I : xI} {R : xR} {L : xL} {n r ci idx : Nat}
/-- a call of a method that makes nothing -/
abbrev XM (T : xT) (Z : xY) (d : Nat) (As : List Value) (n : Nat) (sh : Nat → Nat × Nat) (I : xI) (R : xR) (L : xL) (P : xPost) : Prop := X T Z d 0 0 P 0 (lv_args 0 As) [] (n, sh, 0, 0) I R L
/-- what goes on behind it -/
abbrev xthen (T : xT) (Y : xY) (d CM SM : Nat) (P : xPost) (pc : Nat) (lv : List (Nat × Value)) (st : List Value) (g : xG) : xPost := fun g' I' R' L' v => g'.1 = g.1 ∧ g'.2.1 = g.2.1 ∧ X T Y d CM SM P pc lv (xpush v st) g I' R' L'
theorem xthen_run {dC : Nat → ClassId} {dI : Nat → Nat → Nat} {dA ad adV : Nat → Nat} {A : Nat → Prop} {p : Program} {l : Launch} {e : Env} {Rm : Room} {s : State} {m : MethodId} {args : Array Value} {below : List Frame} {meth : Method} {c : Code} {H : Heap} {locs : List Loc} {Q : State → Prop} {ls : Array Slot} {st0 : List Value} {a : Array Value}
    (C : xC T Y d CM SM p Rm s m args meth c dC dI dA ad adV A) (hl : lv_has ls Y.2.2.1 (lv.map (xq ad))) (hr : xrep dC dI dA ad A s g I R L H locs)
    (hx : ∀ (g' : xG) (I' : xI) (R' : xR) (L' : xL) (ad' : Nat → Nat) (v : Option Value) (H' : Heap) (locs' : List Loc) (ls' : Array Slot) (pc' : Nat), P g' I' R' L' v → xext g ad g' ad' → xret Y pc' v → xrep dC dI dA ad' A s g' I' R' L' H' locs' →
      W p l e Rm s m args below meth c H' locs' CM SM Q (F0 m pc' ls' ((v.map (cV ad')).toList)))
    (hrun : va_Run p l e Rm s m args below meth c H locs g.2.2.1 g.2.2.2 0 0 (F0 m pc ls st0) (st.map (cV ad)) (xQc dC dI dA ad A (g.1, g.2.1, 0, 0) (xthen T Y d CM SM P (pc + 3) lv st g) a) A) :
    W p l e Rm s m args below meth c H locs g.2.2.1 g.2.2.2 Q (F0 m pc ls st0) := by
  refine x_after hrun hr.2.2.1 (fun g' I' R' L' v ad' H1 locs1 hp hext hok hP1 hD1 hS1 => ?_)
  obtain ⟨e1, e2, K⟩ := hp
  have hz : ad' = ad := hext.2.2 e1
  subst hz
  have hw : xw dA ad' g' I' R' L' = xw dA ad' g I' R' L' := by
    unfold xw
    rw [e1, e2]
  rw [hw] at hP1 hD1
  have key := K p l e Rm s m args below meth c Q dC dI dA ad' adV A H1 locs1 ls C hl ⟨hP1, hD1, hS1, hr.2.2.2⟩ hx
  cases v
  · exact key
  · exact key
theorem xPc_of {dC : Nat → ClassId} {dI : Nat → Nat → Nat} {dA ad adV : Nat → Nat} {A : Nat → Prop} {p : Program} {Rm : Room} {s : State} {m : MethodId} {args : Array Value} {meth : Method} {c : Code} {H : Heap} {locs : List Loc}
    (C : xC T Y d CM SM p Rm s m args meth c dC dI dA ad adV A) (hr : xrep dC dI dA ad A s g I R L H locs) (U : State) (hU : U.heap = H) (hW : s.WarmedH U.vm) : xPc T dC dI dA ad adV A As (g.1, g.2.1, 0, 0) I R L (As.map (cV ad)).toArray U := by
  obtain ⟨hP, hD, hS, hk⟩ := hr
  obtain ⟨-, -, -, -, c5, c6, -, c8, -⟩ := C
  subst hU
  exact ⟨rfl, hP, hD, c5.moved hW.alike, fun q hq => c6 q (Nat.le_trans hS.1 hq), hk, c8.go hW hS.2.1 hS.1⟩
theorem xroom {dC : Nat → ClassId} {dI : Nat → Nat → Nat} {dA ad adV : Nat → Nat} {A : Nat → Prop} {p : Program} {Rm : Room} {s : State} {m : MethodId} {args : Array Value} {meth : Method} {c : Code} (C : xC T Y d CM SM p Rm s m args meth c dC dI dA ad adV A) (hz : xMth Z n) (hdd : d' + 1 ≤ d) (mc ms : Nat) :
    (xrm d' mc ms).frames + 1 ≤ Rm.frames ∧ 8 + (Z.2.2.1 + 11) + (xrm d' mc ms).locals ≤ Rm.locals := by
  obtain ⟨-, -, -, -, -, -, ⟨r1, r2, -⟩, -⟩ := C
  have h1 := hz.2.2.2.2
  show d' + 1 ≤ _ ∧ 8 + (Z.2.2.1 + 11) + 64 * d' ≤ _
  omega
theorem xrev {ad : Nat → Nat} {b : Nat} : (As.reverse ++ .ref b :: st).map (cV ad) = (As.map (cV ad)).reverse ++ .ref (ad b) :: st.map (cV ad) := by simp [cV]
theorem xrevS {ad : Nat → Nat} : (As.reverse ++ st).map (cV ad) = (As.map (cV ad)).reverse ++ st.map (cV ad) := by simp
theorem xsum {ad : Nat → Nat} (h : (st.map fun v => v.category).sum ≤ 8) : ((st.map (cV ad)).map fun v => v.category).sum ≤ 8 := by
  have : ((st.map (cV ad)).map fun v => v.category) = st.map fun v => v.category := by
    rw [List.map_map]
    exact List.map_congr_left (fun v _ => cV_cat ad v)
  rw [this]
  exact h
/-- invokevirtual -/
theorem x_callV (hd : decode Y.2.1 pc = .ok (.invokevirtual idx, 3)) (hz : xMth Z n) (hv : xVir Z) (hl0 : Cond.methodLink Y.1.cls idx Z.1 ∈ wsL_law) (hs : g.2.1 r = (0, ci)) (hcl : (vwCl[ci]?).map (fun q => q.1) = some Z.1.cls) (hk : stk = As.reverse ++ .ref r :: st) (hdd : d' + 1 ≤ d) (hc : g.2.2.1 ≤ CM ∧ g.2.2.2 ≤ SM) (hn : As.length = n) (hfit : (lg_sl (.ref r :: As)).length ≤ Z.2.2.1) (hsum : (st.map fun v => v.category).sum ≤ 8)
    (K : XM T Z d' (.ref r :: As) g.1 g.2.1 I R L (xthen T Y d CM SM P (pc + 3) lv st g)) : X T Y d CM SM P pc lv stk g I R L := by
  subst hk
  intro p l e Rm s m args below meth c Q dC dI dA ad adV A H locs ls C hl hr hx
  obtain ⟨c1, c2, c3, c4, c5, c6, c7, c8, c9, c10, c11, c12⟩ := id C
  refine xthen_run (st := st) (a := (Value.ref (ad r) :: As.map (cV ad)).toArray) C hl hr hx ?_
  have hat := xw_at (dA := dA) (ad := ad) (I := I) (R := R) (L := L) (hr.2.2.2.lt hs (by omega))
  rw [hs] at hat
  obtain ⟨q, hq, hqc⟩ := Option.map_eq_some_iff.mp hcl
  have hrc := va_recv c5 hr.1 hq hat
  rw [hqc] at hrc
  exact va_runV (As := As.map (cV ad)) (b := ad r) (rest := st.map (cV ad)) (C := Z.1.cls) (n := n) ⟨c1, c2, c9, c3, c4⟩ (xMet hz.2.2.2.1 hfit K l dC dI dA ad adV A) ⟨callB_of n c4 (xGoodIn hz) rfl rfl rfl (c4 _ hz.2.1) (c4 _ hl0) hz.2.2.1 (xroom C hz hdd 0 0), c4 _ hv.1, c4 _ hv.2⟩ ⟨xPc_blind, hrc, fun U hU hW => xPc_of C hr U hU hW⟩ rfl (by rw [List.length_map]; exact hn) hl.1 xrev (lv_room (xsum hsum)) hd ⟨Nat.le_trans hc.1 c7.2.2.1, Nat.le_trans hc.2 c7.2.2.2⟩
/-- invokevirtual of a nest mate -/
theorem x_callVN {host : String} (hd : decode Y.2.1 pc = .ok (.invokevirtual idx, 3)) (hz : xMth Z n) (hv : xVir Z) (hl0 : (Y.1.cls, idx, Z.1, host) ∈ xnest) (hs : g.2.1 r = (0, ci)) (hcl : (vwCl[ci]?).map (fun q => q.1) = some Z.1.cls) (hk : stk = As.reverse ++ .ref r :: st) (hdd : d' + 1 ≤ d) (hc : g.2.2.1 ≤ CM ∧ g.2.2.2 ≤ SM) (hn : As.length = n) (hfit : (lg_sl (.ref r :: As)).length ≤ Z.2.2.1) (hsum : (st.map fun v => v.category).sum ≤ 8)
    (K : XM T Z d' (.ref r :: As) g.1 g.2.1 I R L (xthen T Y d CM SM P (pc + 3) lv st g)) : X T Y d CM SM P pc lv stk g I R L := by
  subst hk
  intro p l e Rm s m args below meth c Q dC dI dA ad adV A H locs ls C hl hr hx
  obtain ⟨c1, c2, c3, c4, c5, c6, c7, c8, c9, c10, c11, c12⟩ := id C
  refine xthen_run (st := st) (a := (Value.ref (ad r) :: As.map (cV ad)).toArray) C hl hr hx ?_
  have hat := xw_at (dA := dA) (ad := ad) (I := I) (R := R) (L := L) (hr.2.2.2.lt hs (by omega))
  rw [hs] at hat
  obtain ⟨q, hq, hqc⟩ := Option.map_eq_some_iff.mp hcl
  have hrc := va_recv c5 hr.1 hq hat
  rw [hqc] at hrc
  exact va_runVN (As := As.map (cV ad)) (b := ad r) (rest := st.map (cV ad)) (C := Z.1.cls) (n := n) ⟨c1, c2, c9, c3, c4⟩ (xMet hz.2.2.2.1 hfit K l dC dI dA ad adV A) ⟨va_cnB n c4 (xGoodIn hz) rfl rfl rfl (c8.2.2.2.2.2.2.2.2.2.2.2 _ hl0) (c4 _ hz.2.1) hz.2.2.1 (xroom C hz hdd 0 0), c4 _ hv.1, c4 _ hv.2⟩ ⟨xPc_blind, hrc, fun U hU hW => xPc_of C hr U hU hW⟩ rfl (by rw [List.length_map]; exact hn) hl.1 xrev (lv_room (xsum hsum)) hd ⟨Nat.le_trans hc.1 c7.2.2.1, Nat.le_trans hc.2 c7.2.2.2⟩
/-- invokestatic -/
theorem x_callS (hd : decode Y.2.1 pc = .ok (.invokestatic idx, 3)) (hz : xMth Z n) (hv : xSta Z) (hl0 : Cond.methodLink Y.1.cls idx Z.1 ∈ wsL_law) (hk : stk = As.reverse ++ st) (hdd : d' + 1 ≤ d) (hc : g.2.2.1 ≤ CM ∧ g.2.2.2 ≤ SM) (hn : As.length = n) (hfit : (lg_sl As).length ≤ Z.2.2.1) (hsum : (st.map fun v => v.category).sum ≤ 8)
    (K : XM T Z d' As g.1 g.2.1 I R L (xthen T Y d CM SM P (pc + 3) lv st g)) : X T Y d CM SM P pc lv stk g I R L := by
  subst hk
  intro p l e Rm s m args below meth c Q dC dI dA ad adV A H locs ls C hl hr hx
  obtain ⟨c1, c2, c3, c4, c5, c6, c7, c8, c9, c10, c11, c12⟩ := id C
  refine xthen_run (st := st) (a := (As.map (cV ad)).toArray) C hl hr hx ?_
  exact va_runS (As := As.map (cV ad)) (rest := st.map (cV ad)) (n := n) ⟨c1, c2, c9, c3, c4⟩ (xMet hz.2.2.2.1 hfit K l dC dI dA ad adV A) ⟨callB_of n c4 (xGoodIn hz) rfl rfl rfl (c4 _ hz.2.1) (c4 _ hl0) hz.2.2.1 (xroom C hz hdd 0 0), c4 _ hv⟩ ⟨xPc_blind, fun U hU hW => xPc_of C hr U hU hW⟩ rfl (by rw [List.length_map]; exact hn) hl.1 xrevS (lv_room (xsum hsum)) hd ⟨Nat.le_trans hc.1 c7.2.2.1, Nat.le_trans hc.2 c7.2.2.2⟩
/-- invokestatic of a nest mate -/
theorem x_callSN {host : String} (hd : decode Y.2.1 pc = .ok (.invokestatic idx, 3)) (hz : xMth Z n) (hv : xSta Z) (hl0 : (Y.1.cls, idx, Z.1, host) ∈ xnest) (hk : stk = As.reverse ++ st) (hdd : d' + 1 ≤ d) (hc : g.2.2.1 ≤ CM ∧ g.2.2.2 ≤ SM) (hn : As.length = n) (hfit : (lg_sl As).length ≤ Z.2.2.1) (hsum : (st.map fun v => v.category).sum ≤ 8)
    (K : XM T Z d' As g.1 g.2.1 I R L (xthen T Y d CM SM P (pc + 3) lv st g)) : X T Y d CM SM P pc lv stk g I R L := by
  subst hk
  intro p l e Rm s m args below meth c Q dC dI dA ad adV A H locs ls C hl hr hx
  obtain ⟨c1, c2, c3, c4, c5, c6, c7, c8, c9, c10, c11, c12⟩ := id C
  refine xthen_run (st := st) (a := (As.map (cV ad)).toArray) C hl hr hx ?_
  exact va_runSN (As := As.map (cV ad)) (rest := st.map (cV ad)) (n := n) ⟨c1, c2, c9, c3, c4⟩ (xMet hz.2.2.2.1 hfit K l dC dI dA ad adV A) ⟨va_cnB n c4 (xGoodIn hz) rfl rfl rfl (c8.2.2.2.2.2.2.2.2.2.2.2 _ hl0) (c4 _ hz.2.1) hz.2.2.1 (xroom C hz hdd 0 0), c4 _ hv, trivial⟩ ⟨xPc_blind, fun U hU hW => xPc_of C hr U hU hW⟩ rfl (by rw [List.length_map]; exact hn) hl.1 xrevS (lv_room (xsum hsum)) hd ⟨Nat.le_trans hc.1 c7.2.2.1, Nat.le_trans hc.2 c7.2.2.2⟩
end XCALLS
