/-! ===== new cells over X: constructors ===== -/
def xvok (n : Nat) (v : Value) : Prop := match v with
  | .ref a => a < n ∨ 1000000 ≤ a
  | _ => True
/-- what stands on the stack, in the locals and in the cells is older than n -/
def xwf (n : Nat) (lv : List (Nat × Value)) (st : List Value) : Prop := n < 1000000 ∧ (∀ v ∈ st, xvok n v) ∧ ∀ q ∈ lv, xvok n q.2
def xRok (n : Nat) (R : xR) : Prop := ∀ a k r, R a k = some r → r < n
theorem cV_new {n : Nat} {ad ad' : Nat → Nat} (h : ∀ k, k < n ∨ 1000000 ≤ k → ad' k = ad k) {v : Value} (hv : xvok n v) : cV ad' v = cV ad v := by
  cases v with
  | ref a => exact congrArg Value.ref (h a hv)
  | _ => rfl
theorem xst_new {n : Nat} {ad ad' : Nat → Nat} (h : ∀ k, k < n ∨ 1000000 ≤ k → ad' k = ad k) {st : List Value} (hv : ∀ v ∈ st, xvok n v) : st.map (cV ad') = st.map (cV ad) := List.map_congr_left (fun v hm => cV_new h (hv v hm))
theorem xlv_new {n : Nat} {ad ad' : Nat → Nat} (h : ∀ k, k < n ∨ 1000000 ≤ k → ad' k = ad k) {lv : List (Nat × Value)} (hv : ∀ q ∈ lv, xvok n q.2) : lv.map (xq ad') = lv.map (xq ad) := List.map_congr_left (fun q hm => by unfold xq; rw [cV_new h (hv q hm)])
theorem xmap_new {n : Nat} {ad ad' : Nat → Nat} (h : ∀ k, k < n ∨ 1000000 ≤ k → ad' k = ad k) {o : Option Nat} (ho : ∀ r, o = some r → r < n) : o.map ad' = o.map ad := by
  cases o with
  | none => rfl
  | some r => exact congrArg some (h r (Or.inl (ho r rfl)))
theorem xcell_new {n : Nat} {dA ad ad' : Nat → Nat} (h : ∀ k, k < n ∨ 1000000 ≤ k → ad' k = ad k) {I : xI} {R : xR} {L : xL} (hR : xRok n R) (a : Nat) (q : Nat × Nat) : xcellOf dA ad' I R L a q = xcellOf dA ad I R L a q := by
  have e1 : (fun k => (R a k).map ad') = fun k => (R a k).map ad := funext fun k => xmap_new h (fun r hr => hR a k r hr)
  have e2 : xfield ad' I R q.2 a = xfield ad I R q.2 a := by
    funext k
    unfold xfield
    rw [xmap_new h (fun r hr => hR a k r hr)]
  unfold xcellOf
  rw [e1, e2]
theorem xZ_new {n : Nat} {T : xT} {ad ad' adV : Nat → Nat} {A : Nat → Prop} {U : State} {H : Heap} (h : ∀ k, k < n ∨ 1000000 ≤ k → ad' k = ad k) (hz : xZ T ad adV A U H) : xZ T ad' adV A U H := by
  unfold xZ at hz ⊢
  have f1 : (fun i => ad' (1000001 + i)) = fun i => ad (1000001 + i) := funext fun i => h _ (Or.inr (by omega))
  have f2 : (fun i => ad' (1000011 + i)) = fun i => ad (1000011 + i) := funext fun i => h _ (Or.inr (by omega))
  rw [f1, f2, h 1000000 (Or.inr (by omega)), h 1000001 (Or.inr (by omega)), h 1000002 (Or.inr (by omega)), h 1000003 (Or.inr (by omega)), h 1000020 (Or.inr (by omega))]
  exact hz
theorem xw_new {n : Nat} {sh : Nat → Nat × Nat} {ca sa ca' sa' : Nat} {dA ad : Nat → Nat} {q : Nat} {z : Nat × Nat} {I : xI} {R : xR} {L : xL} (hn : n < 1000000) (hR : xRok n R) :
    xw dA (va_up ad n q) (n + 1, va_up sh n z, ca', sa') I R L = xw dA ad (n, sh, ca, sa) I R L ++ [(q, xcellOf dA ad I R L n z)] := by
  have h : ∀ k, k < n ∨ 1000000 ≤ k → va_up ad n q k = ad k := fun k hk => if_neg (by omega)
  unfold xw
  show (List.range (n + 1)).map _ = (List.range n).map _ ++ _
  rw [List.range_succ, List.map_append]
  congr 1
  · refine List.map_congr_left (fun a ha => ?_)
    have ha' : a < n := List.mem_range.mp ha
    have hne : ¬ a = n := by omega
    show (va_up ad n q a, xcellOf dA _ I R L a (va_up sh n z a)) = (ad a, xcellOf dA ad I R L a (sh a))
    rw [xcell_new h hR, h a (Or.inl ha')]
    unfold va_up
    rw [if_neg hne]
  · show [(va_up ad n q n, xcellOf dA _ I R L n (va_up sh n z n))] = _
    rw [xcell_new h hR]
    unfold va_up
    rw [if_pos rfl, if_pos rfl]
theorem xok_new {n : Nat} {sh : Nat → Nat × Nat} {ca sa ca' sa' : Nat} {z : Nat × Nat} (h : xok (n, sh, ca, sa)) : xok (n + 1, va_up sh n z, ca', sa') := by
  intro a ha
  have ha : n + 1 ≤ a := ha
  show 6 ≤ (va_up sh n z a).1
  unfold va_up
  rw [if_neg (by omega)]
  exact h a (show n ≤ a by omega)
theorem xK_arr {dC : Nat → ClassId} {dI : Nat → Nat → Nat} {dA : Nat → Nat} {s : State} {t : Nat} {ty : FieldType} {cA : ClassId} (ht : (xty dA)[t]? = some (dA t, ty)) (h1 : va_K (dC, dI) vwCl (xty dA) s) (h2 : va_K (dC, dI) vwCl (xty dA ++ [(cA, ty)]) s) : cA = dA t := by
  have a1 := (h1.2 t _ ht).2
  have a2 := (h2.2 (xty dA).length (cA, ty) (by simp)).2
  cases ty with
  | object C =>
    obtain ⟨k1, p1, -, -, -, e1⟩ := a1
    obtain ⟨k2, p2, -, -, -, e2⟩ := a2
    exact Option.some.inj (e2.symm.trans e1)
  | _ => exact Option.some.inj (a2.symm.trans a1)
section XNEW
variable {T : xT} {Y Z : xY} {d d' CM SM : Nat} {P : xPost} {pc : Nat} {lv : List (Nat × Value)} {st stk As : List Value} {n ca sa : Nat} {sh : Nat → Nat × Nat} {I : xI} {R : xR} {L : xL} {idx : Nat}
/-- how it goes on with one cell more -/
theorem x_grow {dC : Nat → ClassId} {dI : Nat → Nat → Nat} {dA ad adV : Nat → Nat} {A : Nat → Prop} {p : Program} {l : Launch} {e : Env} {Rm : Room} {s : State} {m : MethodId} {args : Array Value} {below : List Frame} {meth : Method} {c : Code} {H1 : Heap} {locs : List Loc} {Q : State → Prop} {ls : Array Slot} {q ca' sa' pc' : Nat} {z : Nat × Nat}
    (hwf : xwf n lv st) (hR : xRok n R) (C : xC T Y d CM SM p Rm s m args meth c dC dI dA ad adV A) (hl : lv_has ls Y.2.2.1 (lv.map (xq ad))) (hok : xok (n, sh, ca, sa)) (hP : va_P (dC, dI) vwCl (xw dA ad (n, sh, ca, sa) I R L ++ [(q, xcellOf dA ad I R L n z)]) H1) (hD : va_D A (xw dA ad (n, sh, ca, sa) I R L ++ [(q, xcellOf dA ad I R L n z)])) (hS : va_S A s.heap H1 locs)
    (hx : ∀ (g' : xG) (I' : xI) (R' : xR) (L' : xL) (ad' : Nat → Nat) (v : Option Value) (H' : Heap) (locs' : List Loc) (ls' : Array Slot) (pc' : Nat), P g' I' R' L' v → xext (n, sh, ca, sa) ad g' ad' → xret Y pc' v → xrep dC dI dA ad' A s g' I' R' L' H' locs' →
      W p l e Rm s m args below meth c H' locs' CM SM Q (F0 m pc' ls' ((v.map (cV ad')).toList)))
    (K : X T Y d CM SM P pc' lv (.ref n :: st) (n + 1, va_up sh n z, ca', sa') I R L) : W p l e Rm s m args below meth c H1 locs ca' sa' Q (F0 m pc' ls (.ref q :: st.map (cV ad))) := by
  obtain ⟨hn, h1, h2⟩ := hwf
  have h : ∀ k, k < n ∨ 1000000 ≤ k → va_up ad n q k = ad k := fun k hk => if_neg (by omega)
  have key := K p l e Rm s m args below meth c Q dC dI dA (va_up ad n q) adV A H1 locs ls
    (by obtain ⟨c1, c2, c3, c4, c5, c6, c7, c8, c9⟩ := C; exact ⟨c1, c2, c3, c4, c5, c6, c7, xZ_new h c8, c9⟩)
    (by rw [xlv_new h h2]; exact hl)
    (by rw [← xw_new (ca' := ca') (sa' := sa') hn hR] at hP hD; exact ⟨hP, hD, hS, xok_new hok⟩)
    (fun g' I' R' L' ad' v H' locs' ls' pc' a1 a2 a3 a4 => hx g' I' R' L' ad' v H' locs' ls' pc' a1 (xext.tr (g' := (n + 1, va_up sh n z, ca', sa')) (ad' := va_up ad n q) ⟨Nat.le_succ n, h, fun q => absurd q (show ¬ n + 1 = n by omega)⟩ a2) a3 a4)
  have e1 : (Value.ref n :: st).map (cV (va_up ad n q)) = Value.ref q :: st.map (cV ad) := by
    rw [List.map_cons, xst_new h h1]
    show Value.ref (va_up ad n q n) :: _ = _
    unfold va_up
    rw [if_pos rfl]
  rw [e1] at key
  exact key
def xprim (t : Nat) (at0 : ArrayType) : Prop := (t = 1 ∧ at0 = .int) ∨ (t = 2 ∧ at0 = .boolean) ∨ (t = 3 ∧ at0 = .long)
theorem x_newarr {at0 : ArrayType} {t len : Nat} {v : Int32} (hd : decode Y.2.1 pc = .ok (.newarray at0, 2)) (hat : xprim t at0) (hw : Cond.arrayClass (newarray.typeOf at0) ∈ wsL_law) (hv : v = Int32.ofNat len) (hlen : len < 2 ^ 20) (hwf : xwf n lv st) (hR : xRok n R) (hI : ∀ k, I n k = 0) (hL : ∀ k, L n k = 0) (hc : ca + 1 ≤ CM) (hs : sa + len ≤ SM)
    (K : X T Y d CM SM P (pc + 2) lv (.ref n :: st) (n + 1, va_up sh n (t, len), ca + 1, sa + len) I R L) : X T Y d CM SM P pc lv (.int v :: st) (n, sh, ca, sa) I R L := by
  intro p l e Rm s m args below meth c Q dC dI dA ad adV A H locs ls C hl hr hx
  obtain ⟨c1, c2, c3, c4, c5, c6, c7, c8, c9⟩ := id C
  obtain ⟨hP, hD, hS, hk⟩ := hr
  subst hv
  have hlen' : len < 2 ^ 31 := Nat.lt_trans hlen (by decide)
  have hneg : ¬ Int32.ofNat len < 0 := nI_pos hlen'
  have hcl : (Int32.ofNat len).toNatClampNeg = len := nI_clamp hlen'
  rcases hat with ⟨rfl, rfl⟩ | ⟨rfl, rfl⟩ | ⟨rfl, rfl⟩
  · refine va_newa (atype := .int) c1 c2 (c4 _ hw) rfl c5 hP hD hS c6 (a0 := (len, .inl (fun _ => 0))) (fun _ => rfl) hneg hcl (by show len * 4 ≤ _; omega) (Nat.le_trans hc c7.2.2.1) (Nat.le_trans hs c7.2.2.2) hd (fun q cA H1 hK1 hP1 hD1 hS1 => ?_)
    have hcA : cA = dA 0 := xK_arr rfl c5 hK1
    have he : (Sum.inl (cA, len, .inl (fun _ => 0)) : va_E) = xcellOf dA ad I R L n (1, len) := by
      rw [hcA]
      show _ = (Sum.inl (dA 0, len, .inl (I n)) : va_E)
      rw [show I n = fun _ => 0 from funext hI]
    rw [he] at hP1 hD1
    exact x_grow hwf hR C hl hk hP1 hD1 hS1 hx K
  · refine va_newa (atype := .boolean) c1 c2 (c4 _ hw) rfl c5 hP hD hS c6 (a0 := (len, .inl (fun _ => 0))) (fun _ => rfl) hneg hcl (by show len * 1 ≤ _; omega) (Nat.le_trans hc c7.2.2.1) (Nat.le_trans hs c7.2.2.2) hd (fun q cA H1 hK1 hP1 hD1 hS1 => ?_)
    have hcA : cA = dA 1 := xK_arr rfl c5 hK1
    have he : (Sum.inl (cA, len, .inl (fun _ => 0)) : va_E) = xcellOf dA ad I R L n (2, len) := by
      rw [hcA]
      show _ = (Sum.inl (dA 1, len, .inl (I n)) : va_E)
      rw [show I n = fun _ => 0 from funext hI]
    rw [he] at hP1 hD1
    exact x_grow hwf hR C hl hk hP1 hD1 hS1 hx K
  · refine va_newa (atype := .long) c1 c2 (c4 _ hw) rfl c5 hP hD hS c6 (a0 := (len, .inr (.inl (fun _ => 0)))) (fun _ => rfl) hneg hcl (by show len * 8 ≤ _; omega) (Nat.le_trans hc c7.2.2.1) (Nat.le_trans hs c7.2.2.2) hd (fun q cA H1 hK1 hP1 hD1 hS1 => ?_)
    have hcA : cA = dA 2 := xK_arr rfl c5 hK1
    have he : (Sum.inl (cA, len, .inr (.inl (fun _ => 0))) : va_E) = xcellOf dA ad I R L n (3, len) := by
      rw [hcA]
      show _ = (Sum.inl (dA 2, len, .inr (.inl (L n))) : va_E)
      rw [show L n = fun _ => 0 from funext hL]
    rw [he] at hP1 hD1
    exact x_grow hwf hR C hl hk hP1 hD1 hS1 hx K
theorem x_anew {t len : Nat} {v : Int32} {Cn : String} (hd : decode Y.2.1 pc = .ok (.anewarray idx, 3)) (hat : (t = 4 ∧ Cn = "LionRing$Ring") ∨ (t = 5 ∧ Cn = "LionRing$Tape")) (hw : Cond.classLink Y.1.cls idx Cn ∈ wsL_law) (hv : v = Int32.ofNat len) (hlen : len < 2 ^ 20) (hwf : xwf n lv st) (hR : xRok n R) (hR0 : ∀ k, R n k = none) (hc : ca + 1 ≤ CM) (hs : sa + len ≤ SM)
    (K : X T Y d CM SM P (pc + 3) lv (.ref n :: st) (n + 1, va_up sh n (t, len), ca + 1, sa + len) I R L) : X T Y d CM SM P pc lv (.int v :: st) (n, sh, ca, sa) I R L := by
  intro p l e Rm s m args below meth c Q dC dI dA ad adV A H locs ls C hl hr hx
  obtain ⟨c1, c2, c3, c4, c5, c6, c7, c8, c9⟩ := id C
  obtain ⟨hP, hD, hS, hk⟩ := hr
  subst hv
  have hlen' : len < 2 ^ 31 := Nat.lt_trans hlen (by decide)
  have hneg : ¬ Int32.ofNat len < 0 := nI_pos hlen'
  have hcl : (Int32.ofNat len).toNatClampNeg = len := nI_clamp hlen'
  have hAO : va_AO Cn s := by
    obtain ⟨-, -, -, -, -, -, -, -, -, z1, z2, -⟩ := c8
    rcases hat with ⟨-, rfl⟩ | ⟨-, rfl⟩
    · exact z1
    · exact z2
  have hr0 : (fun k => (R n k).map ad) = fun _ => none := funext fun k => by rw [hR0 k]; rfl
  rcases hat with ⟨rfl, rfl⟩ | ⟨rfl, rfl⟩
  · refine va_newq c1 c2 c3 (c4 _ hw) hAO c5 hP hD hS c6 hneg hcl (by omega) (Nat.le_trans hc c7.2.2.1) (Nat.le_trans hs c7.2.2.2) hd (fun q cA H1 hK1 hP1 hD1 hS1 => ?_)
    have hcA : cA = dA 3 := xK_arr rfl c5 hK1
    have he : (Sum.inl (cA, len, .inr (.inr (.inr (.inr (fun _ => none))))) : va_E) = xcellOf dA ad I R L n (4, len) := by
      rw [hcA]
      show _ = (Sum.inl (dA 3, len, .inr (.inr (.inr (.inr (fun k => (R n k).map ad))))) : va_E)
      rw [hr0]
    rw [he] at hP1 hD1
    exact x_grow hwf hR C hl hk hP1 hD1 hS1 hx K
  · refine va_newq c1 c2 c3 (c4 _ hw) hAO c5 hP hD hS c6 hneg hcl (by omega) (Nat.le_trans hc c7.2.2.1) (Nat.le_trans hs c7.2.2.2) hd (fun q cA H1 hK1 hP1 hD1 hS1 => ?_)
    have hcA : cA = dA 4 := xK_arr rfl c5 hK1
    have he : (Sum.inl (cA, len, .inr (.inr (.inr (.inr (fun _ => none))))) : va_E) = xcellOf dA ad I R L n (5, len) := by
      rw [hcA]
      show _ = (Sum.inl (dA 4, len, .inr (.inr (.inr (.inr (fun k => (R n k).map ad))))) : va_E)
      rw [hr0]
    rw [he] at hP1 hD1
    exact x_grow hwf hR C hl hk hP1 hD1 hS1 hx K
/-- a class that can be made -/
def xCls (own : String) (idx ci : Nat) : Prop := ∃ (Cn : String) (Tt : u_T) (ty : Nat → FieldType), vwCl[ci]? = some (Cn, Tt, xN ci) ∧ (∀ w ∈ u_ws Cn Tt (xN ci), w ∈ wsL_law) ∧ (∀ j, j < xN ci → parseFieldDescriptor (Tt j).2.2.1 = some (ty j)) ∧ Cond.classLink own idx Cn ∈ wsL_law ∧ Cond.instantiable Cn (xN ci) ∈ wsL_law ∧ Cond.initialized Cn ∈ wsL_law ∧
  (∀ j, j < xN ci → defaultValue (ty j) = if xRef ci j then .null else .int 0)
theorem x_new {ci : Nat} (hd : decode Y.2.1 pc = .ok (.new idx, 3)) (hw : xCls Y.1.cls idx ci) (hwf : xwf n lv st) (hR : xRok n R) (hI : ∀ k, I n k = 0) (hR0 : ∀ k, R n k = none) (hc : ca + 1 ≤ CM) (hs : sa + xN ci ≤ SM)
    (K : X T Y d CM SM P (pc + 3) lv (.ref n :: st) (n + 1, va_up sh n (0, ci), ca + 1, sa + xN ci) I R L) : X T Y d CM SM P pc lv st (n, sh, ca, sa) I R L := by
  intro p l e Rm s m args below meth c Q dC dI dA ad adV A H locs ls C hl hr hx
  obtain ⟨c1, c2, c3, c4, c5, c6, c7, c8, c9⟩ := id C
  obtain ⟨hP, hD, hS, hk⟩ := hr
  obtain ⟨Cn, Tt, ty, f1, f2, f3, f4, f5, f6, f7⟩ := hw
  refine va_new (D := (dC, dI)) c1 c2 c4 f2 ty f3 c3 (c4 _ f4) (c4 _ f5) (c4 _ f6) c5 hP hD hS c6 f1 (fs := (List.range (xN ci)).map (xfield ad I R ci n)) (fun j hj => ?_) (Nat.le_trans hc c7.2.2.1) (Nat.le_trans hs c7.2.2.2) hd (fun q H1 hP1 hD1 hS1 => ?_)
  · rw [f7 j hj]
    unfold vp_V
    rw [List.getD_eq_getElem?_getD, xfields_at hj]
    unfold xfield
    rw [hI j, hR0 j]
    cases xRef ci j <;> rfl
  · exact x_grow (z := (0, ci)) hwf hR C hl hk hP1 hD1 hS1 hx K
/-- behind a constructor -/
abbrev xthenA (T : xT) (Y : xY) (d CM SM : Nat) (P : xPost) (pc : Nat) (lv : List (Nat × Value)) (st : List Value) (ca' sa' : Nat) : xPost := fun g' I' R' L' v => v = none ∧ X T Y d CM SM P pc lv st (g'.1, g'.2.1, ca', sa') I' R' L'
/-- a constructor: it may make mc cells of ms slots -/
theorem x_callI {mc ms k r ci : Nat} (hd : decode Y.2.1 pc = .ok (.invokespecial idx, 3)) (hz : xMth Z k) (hi : Cond.instanceMethod Z.1 ∈ wsL_law) (hnm : Z.1.name = "<init>") (hret : Z.2.2.2 = none) (hl0 : Cond.methodLink Y.1.cls idx Z.1 ∈ wsL_law) (hk : stk = As.reverse ++ .ref r :: st)
    (hdd : d' + 1 ≤ d) (hc : ca + mc ≤ CM ∧ sa + ms ≤ SM) (hn : As.length = k) (hfit : (lg_sl (.ref r :: As)).length ≤ Z.2.2.1) (hsum : (st.map fun v => v.category).sum ≤ 8) (hwf : xwf n lv st)
    (K : X T Z d' mc ms (xthenA T Y d CM SM P (pc + 3) lv st (ca + mc) (sa + ms)) 0 (lv_args 0 (.ref r :: As)) [] (n, sh, 0, 0) I R L) : X T Y d CM SM P pc lv stk (n, sh, ca, sa) I R L := by
  subst hk
  intro p l e Rm s m args below meth c Q dC dI dA ad adV A H locs ls C hl hr hx
  obtain ⟨c1, c2, c3, c4, c5, c6, c7, c8, c9, c10, c11, c12⟩ := id C
  have hrun : va_Run p l e Rm s m args below meth c H locs ca sa mc ms (F0 m pc ls ((As.reverse ++ .ref r :: st).map (cV ad))) (st.map (cV ad)) (xQc dC dI dA ad A (n, sh, 0, 0) (xthenA T Y d CM SM P (pc + 3) lv st (ca + mc) (sa + ms)) (Value.ref (ad r) :: As.map (cV ad)).toArray) A := by
    have hcb : CallB Rm s args Y.1.cls idx Z.1 Z.2.1 Z.2.2.1 none (xws Z) (xrm d' mc ms) mc ms k := by
      have h := callB_of (ret := Z.2.2.2) k c4 (xGoodIn hz) rfl rfl rfl (c4 _ hz.2.1) (c4 _ hl0) hz.2.2.1 (xroom C hz hdd mc ms)
      rw [hret] at h
      exact h
    exact va_runI (As := As.map (cV ad)) (b := ad r) (rest := st.map (cV ad)) (n := k) ⟨c1, c2, c9, c3, c4⟩ (xMet hz.2.2.2.1 hfit K l dC dI dA ad adV A)
      ⟨hcb, hnm, c4 _ hi⟩ ⟨xPc_blind, fun U hU hW => xPc_of (As := .ref r :: As) C hr U hU hW⟩ rfl (by rw [List.length_map]; exact hn) hl.1 xrev (lv_room (xsum hsum)) hd ⟨Nat.le_trans hc.1 c7.2.2.1, Nat.le_trans hc.2 c7.2.2.2⟩
  refine x_after hrun hr.2.2.1 (fun g' I' R' L' v ad' H1 locs1 hp hext hok hP1 hD1 hS1 => ?_)
  obtain ⟨rfl, K'⟩ := hp
  obtain ⟨hn0, h1, h2⟩ := hwf
  have key := K' p l e Rm s m args below meth c Q dC dI dA ad' adV A H1 locs1 ls ⟨c1, c2, c3, c4, c5, c6, c7, xZ_new hext.2.1 c8, c9, c10, c11, c12⟩ (by rw [xlv_new hext.2.1 h2]; exact hl) ⟨hP1, hD1, hS1, hok⟩
    (fun g2 I2 R2 L2 ad2 v2 H2 locs2 ls2 pc2 a1 a2 a3 a4 => hx g2 I2 R2 L2 ad2 v2 H2 locs2 ls2 pc2 a1 (xext.tr (g' := (g'.1, g'.2.1, ca + mc, sa + ms)) (ad' := ad') hext a2) a3 a4)
  rw [xst_new hext.2.1 h1] at key
  exact key
/-- a constructor: it may make mc cells of ms slots -/
theorem x_callIN {host : String} {mc ms k r ci : Nat} (hd : decode Y.2.1 pc = .ok (.invokespecial idx, 3)) (hz : xMth Z k) (hi : Cond.instanceMethod Z.1 ∈ wsL_law) (hnm : Z.1.name = "<init>") (hret : Z.2.2.2 = none) (hl0 : (Y.1.cls, idx, Z.1, host) ∈ xnest) (hk : stk = As.reverse ++ .ref r :: st)
    (hdd : d' + 1 ≤ d) (hc : ca + mc ≤ CM ∧ sa + ms ≤ SM) (hn : As.length = k) (hfit : (lg_sl (.ref r :: As)).length ≤ Z.2.2.1) (hsum : (st.map fun v => v.category).sum ≤ 8) (hwf : xwf n lv st)
    (K : X T Z d' mc ms (xthenA T Y d CM SM P (pc + 3) lv st (ca + mc) (sa + ms)) 0 (lv_args 0 (.ref r :: As)) [] (n, sh, 0, 0) I R L) : X T Y d CM SM P pc lv stk (n, sh, ca, sa) I R L := by
  subst hk
  intro p l e Rm s m args below meth c Q dC dI dA ad adV A H locs ls C hl hr hx
  obtain ⟨c1, c2, c3, c4, c5, c6, c7, c8, c9, c10, c11, c12⟩ := id C
  have hrun : va_Run p l e Rm s m args below meth c H locs ca sa mc ms (F0 m pc ls ((As.reverse ++ .ref r :: st).map (cV ad))) (st.map (cV ad)) (xQc dC dI dA ad A (n, sh, 0, 0) (xthenA T Y d CM SM P (pc + 3) lv st (ca + mc) (sa + ms)) (Value.ref (ad r) :: As.map (cV ad)).toArray) A := by
    have hcb : va_CN Rm s args Y.1.cls idx Z.1 host Z.2.1 Z.2.2.1 none (xws Z) (xrm d' mc ms) mc ms k := by
      have h := va_cnB (ret := Z.2.2.2) k c4 (xGoodIn hz) rfl rfl rfl (c8.2.2.2.2.2.2.2.2.2.2.2 _ hl0) (c4 _ hz.2.1) hz.2.2.1 (xroom C hz hdd mc ms)
      rw [hret] at h
      exact h
    exact va_runIN (As := As.map (cV ad)) (b := ad r) (rest := st.map (cV ad)) (n := k) ⟨c1, c2, c9, c3, c4⟩ (xMet hz.2.2.2.1 hfit K l dC dI dA ad adV A)
      ⟨hcb, hnm, c4 _ hi⟩ ⟨xPc_blind, fun U hU hW => xPc_of (As := .ref r :: As) C hr U hU hW⟩ rfl (by rw [List.length_map]; exact hn) hl.1 xrev (lv_room (xsum hsum)) hd ⟨Nat.le_trans hc.1 c7.2.2.1, Nat.le_trans hc.2 c7.2.2.2⟩
  refine x_after hrun hr.2.2.1 (fun g' I' R' L' v ad' H1 locs1 hp hext hok hP1 hD1 hS1 => ?_)
  obtain ⟨rfl, K'⟩ := hp
  obtain ⟨hn0, h1, h2⟩ := hwf
  have key := K' p l e Rm s m args below meth c Q dC dI dA ad' adV A H1 locs1 ls ⟨c1, c2, c3, c4, c5, c6, c7, xZ_new hext.2.1 c8, c9, c10, c11, c12⟩ (by rw [xlv_new hext.2.1 h2]; exact hl) ⟨hP1, hD1, hS1, hok⟩
    (fun g2 I2 R2 L2 ad2 v2 H2 locs2 ls2 pc2 a1 a2 a3 a4 => hx g2 I2 R2 L2 ad2 v2 H2 locs2 ls2 pc2 a1 (xext.tr (g' := (g'.1, g'.2.1, ca + mc, sa + ms)) (ad' := ad') hext a2) a3 a4)
  rw [xst_new hext.2.1 h1] at key
  exact key
end XNEW
