/-! ===== switches, constants, statics, texts, the script, Math, arraycopy, over X ===== -/
/-- a chain of cases -/
def xsw (x : Int32) (K : Nat → Prop) (dt : Nat) : List (Int32 × Nat) → Prop
  | [] => K dt
  | (c, t) :: ts => (x = c → K t) ∧ (¬ x = c → xsw x K dt ts)
theorem xsw_c {x c : Int32} {t : Nat} {K : Nat → Prop} {dt : Nat} {ts : List (Int32 × Nat)} (h1 : x = c → K t) (h2 : ¬ x = c → xsw x K dt ts) : xsw x K dt ((c, t) :: ts) := ⟨h1, h2⟩
theorem xsw_n {x : Int32} {K : Nat → Prop} {dt : Nat} (h : K dt) : xsw x K dt [] := h
theorem xsw_or {x : Int32} {K : Nat → Prop} {dt : Nat} : ∀ {ts : List (Int32 × Nat)}, xsw x K dt ts → (∃ q, q ∈ ts ∧ x = q.1 ∧ K q.2) ∨ ((∀ q ∈ ts, ¬ x = q.1) ∧ K dt)
  | [], h => Or.inr ⟨fun _ q => (by cases q), h⟩
  | (c, t) :: ts, h => by
    by_cases hx : x = c
    · exact Or.inl ⟨(c, t), List.mem_cons_self, hx, h.1 hx⟩
    · rcases xsw_or (h.2 hx) with ⟨q, h1, h2⟩ | ⟨h1, h2⟩
      · exact Or.inl ⟨q, List.mem_cons_of_mem _ h1, h2⟩
      · refine Or.inr ⟨fun q hq => ?_, h2⟩
        rcases List.mem_cons.mp hq with rfl | hq
        · exact hx
        · exact h1 q hq
def xtabOk (pc : Nat) (lo hi : Int) (offs : Array Int) (ts : List (Int32 × Nat)) : Bool :=
  (decide (hi = lo + (ts.length : Int) - 1)) && (List.range ts.length).all (fun i => match ts[i]?, offs[i]? with
    | some q, some o => decide (q.1.toInt = lo + (i : Int)) && decide ((pc : Int) + o = (q.2 : Int))
    | _, _ => false)
section XMORE
variable {T : xT} {Y Z : xY} {d d' CM SM : Nat} {P : xPost} {pc : Nat} {lv : List (Nat × Value)} {st : List Value} {g : xG} {I : xI} {R : xR} {L : xL} {idx : Nat}
theorem x_tsw {dflt lo hi : Int} {offs : Array Int} {len dt : Nat} {x : Int32} (ts : List (Int32 × Nat)) (hd : decode Y.2.1 pc = .ok (.tableswitch dflt lo hi offs, len)) (ht : xtabOk pc lo hi offs ts = true) (hdt : (pc : Int) + dflt = (dt : Int))
    (K : xsw x (fun t => X T Y d CM SM P t lv st g I R L) dt ts) : X T Y d CM SM P pc lv (.int x :: st) g I R L := by
  intro p l e Rm s m args below meth c Q dC dI dA ad adV A H locs ls C hl hr hx
  simp only [xtabOk, Bool.and_eq_true, decide_eq_true_eq, List.all_eq_true, List.mem_range] at ht
  obtain ⟨h1, h2⟩ := ht
  have key : ∀ i, i < ts.length → ∃ q o, ts[i]? = some q ∧ offs[i]? = some o ∧ q.1.toInt = lo + (i : Int) ∧ (pc : Int) + o = (q.2 : Int) := by
    intro i hi
    have h3 := h2 i hi
    cases hq : ts[i]? with
    | none => rw [hq] at h3; simp at h3
    | some q =>
      cases ho : offs[i]? with
      | none => rw [hq, ho] at h3; simp at h3
      | some o =>
        rw [hq, ho] at h3
        simp only [Bool.and_eq_true, decide_eq_true_eq] at h3
        exact ⟨q, o, rfl, rfl, h3.1, h3.2⟩
  rcases xsw_or K with ⟨q, hq, hxq, hK⟩ | ⟨hno, hK⟩
  · obtain ⟨i, hi⟩ := List.getElem?_of_mem hq
    have hlt : i < ts.length := (List.getElem?_eq_some_iff.mp hi).1
    obtain ⟨q', o, e1, e2, e3, e4⟩ := key i hlt
    cases hi.symm.trans e1
    subst hxq
    exact lv_tableIn C.1 C.2.1 hd (by omega) (by omega) (off := o) (by rw [e3, show (lo + (i : Int) - lo).toNat = i by omega]; exact e2) e4 (hK p l e Rm s m args below meth c Q dC dI dA ad adV A H locs ls C hl hr hx)
  · refine lv_tableOut C.1 C.2.1 hd ?_ hdt (hK p l e Rm s m args below meth c Q dC dI dA ad adV A H locs ls C hl hr hx)
    by_cases a1 : x.toInt < lo
    · exact Or.inl a1
    · by_cases a2 : hi < x.toInt
      · exact Or.inr a2
      · exfalso
        obtain ⟨q, o, e1, e2, e3, e4⟩ := key (x.toInt - lo).toNat (by omega)
        exact hno q (List.mem_of_getElem? e1) (Int32.toInt_inj.mp (by rw [e3]; omega))
theorem x_lsw {dflt : Int} {ps : Array (Int × Int)} {len dt : Nat} {x : Int32} (ts : List (Int32 × Nat)) (hd : decode Y.2.1 pc = .ok (.lookupswitch dflt ps, len)) (hs : (ps.toList.zip (ps.toList.drop 1)).all (fun (a, next) => a.1 < next.1) = true) (hm : ps.toList.map (fun q => (q.1, (pc : Int) + q.2)) = ts.map (fun q => (q.1.toInt, (q.2 : Int)))) (hdt : (pc : Int) + dflt = (dt : Int))
    (K : xsw x (fun t => X T Y d CM SM P t lv st g I R L) dt ts) : X T Y d CM SM P pc lv (.int x :: st) g I R L := by
  intro p l e Rm s m args below meth c Q dC dI dA ad adV A H locs ls C hl hr hx
  have gen : ∀ (l1 : List (Int × Int)) (l2 : List (Int32 × Nat)), l1.map (fun q => (q.1, (pc : Int) + q.2)) = l2.map (fun q => (q.1.toInt, (q.2 : Int))) → xsw x (fun t => X T Y d CM SM P t lv st g I R L) dt l2 → ∃ t : Nat, X T Y d CM SM P t lv st g I R L ∧ (pc : Int) + Op.lookupswitch.offset l1 dflt x.toInt = (t : Int) := by
    intro l1
    induction l1 with
    | nil =>
      intro l2 h1 h2
      cases l2 with
      | nil => exact ⟨dt, h2, hdt⟩
      | cons b t => simp at h1
    | cons a l1 ih =>
      intro l2 h1 h2
      cases l2 with
      | nil => simp at h1
      | cons b l2 =>
        obtain ⟨k, o⟩ := a
        obtain ⟨c0, t0⟩ := b
        simp only [List.map_cons, List.cons.injEq, Prod.mk.injEq] at h1
        obtain ⟨⟨e1, e2⟩, e3⟩ := h1
        by_cases hxc : x = c0
        · refine ⟨t0, h2.1 hxc, ?_⟩
          subst hxc
          simp [Op.lookupswitch.offset, List.find?, e1, e2]
        · obtain ⟨t, h4, h5⟩ := ih l2 e3 (h2.2 hxc)
          refine ⟨t, h4, ?_⟩
          have hne : ¬ k = x.toInt := fun q => hxc (Int32.toInt_inj.mp (by rw [← q, e1]))
          rw [← h5]
          simp [Op.lookupswitch.offset, List.find?, hne]
  obtain ⟨t, h4, h5⟩ := gen _ ts hm K
  exact lv_lookup C.1 C.2.1 hd hs rfl h5 (h4 p l e Rm s m args below meth c Q dC dI dA ad adV A H locs ls C hl hr hx)
theorem x_ldc {v : Int32} (hd : decode Y.2.1 pc = .ok (.ldc idx, 2)) (hc : Cond.constant Y.1.cls idx v ∈ wsL_law) (K : X T Y d CM SM P (pc + 2) lv (.int v :: st) g I R L) : X T Y d CM SM P pc lv st g I R L := by
  intro p l e Rm s m args below meth c Q dC dI dA ad adV A H locs ls C hl hr hx
  exact lv_ldc C.1 C.2.1 C.2.2.1 (C.2.2.2.1 _ hc) hd (K p l e Rm s m args below meth c Q dC dI dA ad adV A H locs ls C hl hr hx)
theorem x_ldcw {v : Int32} (hd : decode Y.2.1 pc = .ok (.ldc_w idx, 3)) (hc : Cond.constant Y.1.cls idx v ∈ wsL_law) (K : X T Y d CM SM P (pc + 3) lv (.int v :: st) g I R L) : X T Y d CM SM P pc lv st g I R L := by
  intro p l e Rm s m args below meth c Q dC dI dA ad adV A H locs ls C hl hr hx
  exact lv_ldcw C.1 C.2.1 C.2.2.1 (C.2.2.2.1 _ hc) hd (K p l e Rm s m args below meth c Q dC dI dA ad adV A H locs ls C hl hr hx)
theorem x_ldc2 {v : Int64} (hd : decode Y.2.1 pc = .ok (.ldc2_w idx, 3)) (hc : Cond.constantLong Y.1.cls idx v ∈ wsL_law) (K : X T Y d CM SM P (pc + 3) lv (.long v :: st) g I R L) : X T Y d CM SM P pc lv st g I R L := by
  intro p l e Rm s m args below meth c Q dC dI dA ad adV A H locs ls C hl hr hx
  exact lv_ldc2 C.1 C.2.1 C.2.2.1 (C.2.2.2.1 _ hc) hd (K p l e Rm s m args below meth c Q dC dI dA ad adV A H locs ls C hl hr hx)
theorem x_ldcS {i : Nat} (hy : Y.1.cls = "LionRing$Reader") (hi : (idx = 49 ∧ i = 0) ∨ (idx = 51 ∧ i = 1) ∨ (idx = 53 ∧ i = 2)) (hd : decode Y.2.1 pc = .ok (.ldc idx, 2)) (K : X T Y d CM SM P (pc + 2) lv (.ref (1000001 + i) :: st) g I R L) : X T Y d CM SM P pc lv st g I R L := by
  intro p l e Rm s m args below meth c Q dC dI dA ad adV A H locs ls C hl hr hx
  have key := K p l e Rm s m args below meth c Q dC dI dA ad adV A H locs ls C hl hr hx
  have ho := C.2.2.1
  rw [hy] at ho
  obtain ⟨-, -, -, -, -, -, z1, z2, z3, -⟩ := C.2.2.2.2.2.2.2.1
  rcases hi with ⟨rfl, rfl⟩ | ⟨rfl, rfl⟩ | ⟨rfl, rfl⟩
  · exact va_ldcS C.1 C.2.1 ho z1 hd key
  · exact va_ldcS C.1 C.2.1 ho z2 hd key
  · exact va_ldcS C.1 C.2.1 ho z3 hd key
theorem x_compact (hl0 : Cond.fieldLink Y.1.cls idx "java/lang/String" "COMPACT_STRINGS" "Z" ∈ wsL_law) (hd : decode Y.2.1 pc = .ok (.getstatic idx, 3)) (K : X T Y d CM SM P (pc + 3) lv (.int 1 :: st) g I R L) : X T Y d CM SM P pc lv st g I R L := by
  intro p l e Rm s m args below meth c Q dC dI dA ad adV A H locs ls C hl hr hx
  exact va_gets C.1 C.2.1 C.2.2.2.2.2.2.2.1.2.2.2.2.1 hr.2.2.1 C.2.2.1 (C.2.2.2.1 _ hl0) (fun _ h => h) hd (K p l e Rm s m args below meth c Q dC dI dA ad adV A H locs ls C hl hr hx)
theorem x_sioobe (hl0 : Cond.fieldLink Y.1.cls idx "jdk/internal/util/Preconditions" "SIOOBE_FORMATTER" "Ljava/util/function/BiFunction;" ∈ wsL_law) (hd : decode Y.2.1 pc = .ok (.getstatic idx, 3)) (K1 : X T Y d CM SM P (pc + 3) lv (.null :: st) g I R L) (K2 : X T Y d CM SM P (pc + 3) lv (.ref 1000020 :: st) g I R L) : X T Y d CM SM P pc lv st g I R L := by
  intro p l e Rm s m args below meth c Q dC dI dA ad adV A H locs ls C hl hr hx
  rcases C.2.2.2.2.2.2.2.1.2.2.2.2.2.1 with h | h
  · exact va_gets C.1 C.2.1 h hr.2.2.1 C.2.2.1 (C.2.2.2.1 _ hl0) (fun _ h => h) hd (K1 p l e Rm s m args below meth c Q dC dI dA ad adV A H locs ls C hl hr hx)
  · exact va_gets C.1 C.2.1 h hr.2.2.1 C.2.2.1 (C.2.2.2.1 _ hl0) (fun _ h => h) hd (K2 p l e Rm s m args below meth c Q dC dI dA ad adV A H locs ls C hl hr hx)
theorem x_strCoder {i : Nat} (hi : i < 3) (hl0 : Cond.fieldLink Y.1.cls idx "java/lang/String" "coder" "B" ∈ wsL_law) (hd : decode Y.2.1 pc = .ok (.getfield idx, 3)) (K : X T Y d CM SM P (pc + 3) lv (.int 0 :: st) g I R L) : X T Y d CM SM P pc lv (.ref (1000001 + i) :: st) g I R L := by
  intro p l e Rm s m args below meth c Q dC dI dA ad adV A H locs ls C hl hr hx
  exact vk_getf C.1 C.2.1 (C.2.2.2.2.2.2.2.1.2.2.2.1.1 i hi).2.1 hr.2.2.1 C.2.2.1 (C.2.2.2.1 _ hl0) (fun _ h => h) hd (K p l e Rm s m args below meth c Q dC dI dA ad adV A H locs ls C hl hr hx)
theorem x_strValue {i : Nat} (hi : i < 3) (hl0 : Cond.fieldLink Y.1.cls idx "java/lang/String" "value" "[B" ∈ wsL_law) (hd : decode Y.2.1 pc = .ok (.getfield idx, 3)) (K : X T Y d CM SM P (pc + 3) lv (.ref (1000011 + i) :: st) g I R L) : X T Y d CM SM P pc lv (.ref (1000001 + i) :: st) g I R L := by
  intro p l e Rm s m args below meth c Q dC dI dA ad adV A H locs ls C hl hr hx
  exact vk_getf C.1 C.2.1 (C.2.2.2.2.2.2.2.1.2.2.2.1.1 i hi).2.2.1 hr.2.2.1 C.2.2.1 (C.2.2.2.1 _ hl0) (fun _ h => h) hd (K p l e Rm s m args below meth c Q dC dI dA ad adV A H locs ls C hl hr hx)
theorem x_strLen {i : Nat} {v : Int32} (hi : i < 3) (hv : Int32.ofNat (xlen.getD i 0) = v) (hd : decode Y.2.1 pc = .ok (.arraylength, 1)) (K : X T Y d CM SM P (pc + 1) lv (.int v :: st) g I R L) : X T Y d CM SM P pc lv (.ref (1000011 + i) :: st) g I R L := by
  intro p l e Rm s m args below meth c Q dC dI dA ad adV A H locs ls C hl hr hx
  exact va_tlen C.1 C.2.1 (C.2.2.2.2.2.2.2.1.2.2.2.1.1 i hi).2.2.2 hr.2.2.1 hv hd (K p l e Rm s m args below meth c Q dC dI dA ad adV A H locs ls C hl hr hx)
theorem x_strByte {i : Nat} {k : Int32} {v : Int32} (hi : i < 3) (hk : vp_in k (xlen.getD i 0)) (hv : (xbyt.getD i []).getD k.toNatClampNeg 0 = v) (hd : decode Y.2.1 pc = .ok (.baload, 1)) (K : X T Y d CM SM P (pc + 1) lv (.int v :: st) g I R L) : X T Y d CM SM P pc lv (.int k :: .ref (1000011 + i) :: st) g I R L := by
  intro p l e Rm s m args below meth c Q dC dI dA ad adV A H locs ls C hl hr hx
  exact va_tb C.1 C.2.1 (C.2.2.2.2.2.2.2.1.2.2.2.1.1 i hi).2.2.2 hr.2.2.1 hk (v := .int v) (by rw [hv]) hd (K p l e Rm s m args below meth c Q dC dI dA ad adV A H locs ls C hl hr hx)
theorem x_sld {k : Int32} (hk : vp_in k T.1) (hd : decode Y.2.1 pc = .ok (.iaload, 1)) (K : X T Y d CM SM P (pc + 1) lv (.int (T.2 k.toNatClampNeg) :: st) g I R L) : X T Y d CM SM P pc lv (.int k :: .ref 1000000 :: st) g I R L := by
  intro p l e Rm s m args below meth c Q dC dI dA ad adV A H locs ls C hl hr hx
  obtain ⟨z1, z2, z3, -⟩ := C.2.2.2.2.2.2.2.1
  exact va_sld C.1 C.2.1 z1 z3 z2 hr.2.2.1 hk hd (K p l e Rm s m args below meth c Q dC dI dA ad adV A H locs ls C hl hr hx)
theorem x_slen (hd : decode Y.2.1 pc = .ok (.arraylength, 1)) (K : X T Y d CM SM P (pc + 1) lv (.int (Int32.ofNat T.1) :: st) g I R L) : X T Y d CM SM P pc lv (.ref 1000000 :: st) g I R L := by
  intro p l e Rm s m args below meth c Q dC dI dA ad adV A H locs ls C hl hr hx
  obtain ⟨z1, z2, z3, -⟩ := C.2.2.2.2.2.2.2.1
  exact va_slen C.1 C.2.1 z1 z3 z2 hr.2.2.1 hd (K p l e Rm s m args below meth c Q dC dI dA ad adV A H locs ls C hl hr hx)
def xmathW (nm : MethodName) (b : ByteArray) (nL : Nat) : Prop := Cond.static nm ∈ wsL_law ∧ Cond.initialized "java/lang/Math" ∈ wsL_law ∧ Cond.code nm b nL (some .int) ∈ wsL_law
theorem x_max {x y : Int32} (hd1 : 1 ≤ d) (hc : g.2.2.1 ≤ CM ∧ g.2.2.2 ≤ SM) (hw : xmathW Lib.Math.max.name Lib.Math.max.code 2) (hl0 : Cond.methodLink Y.1.cls idx Lib.Math.max.name ∈ wsL_law) (hd : decode Y.2.1 pc = .ok (.invokestatic idx, 3)) (hsum : (st.map fun v => v.category).sum ≤ 8) (K : X T Y d CM SM P (pc + 3) lv (.int (if x < y then y else x) :: st) g I R L) : X T Y d CM SM P pc lv (.int y :: .int x :: st) g I R L := by
  intro p l e Rm s m args below meth c Q dC dI dA ad adV A H locs ls C hl hr hx
  obtain ⟨c1, c2, c3, c4, c5, c6, c7, c8, c9, -⟩ := id C
  have hz := xsum (ad := ad) hsum
  exact va_mmax c1 c2 (c9.trans hl.1.symm) c3 (c4 _ hl0) (c4 _ hw.1) (c4 _ hw.2.1) (c4 _ hw.2.2) (by omega) (by omega) (Nat.le_trans hc.1 c7.2.2.1) (Nat.le_trans hc.2 c7.2.2.2) hd (K p l e Rm s m args below meth c Q dC dI dA ad adV A H locs ls C hl hr hx)
theorem x_min {x y : Int32} (hd1 : 1 ≤ d) (hc : g.2.2.1 ≤ CM ∧ g.2.2.2 ≤ SM) (hw : xmathW Lib.Math.min.name Lib.Math.min.code 2) (hl0 : Cond.methodLink Y.1.cls idx Lib.Math.min.name ∈ wsL_law) (hd : decode Y.2.1 pc = .ok (.invokestatic idx, 3)) (hsum : (st.map fun v => v.category).sum ≤ 8) (K : X T Y d CM SM P (pc + 3) lv (.int (if y < x then y else x) :: st) g I R L) : X T Y d CM SM P pc lv (.int y :: .int x :: st) g I R L := by
  intro p l e Rm s m args below meth c Q dC dI dA ad adV A H locs ls C hl hr hx
  obtain ⟨c1, c2, c3, c4, c5, c6, c7, c8, c9, -⟩ := id C
  have hz := xsum (ad := ad) hsum
  exact va_mmin c1 c2 (c9.trans hl.1.symm) c3 (c4 _ hl0) (c4 _ hw.1) (c4 _ hw.2.1) (c4 _ hw.2.2) (by omega) (by omega) (Nat.le_trans hc.1 c7.2.2.1) (Nat.le_trans hc.2 c7.2.2.2) hd (K p l e Rm s m args below meth c Q dC dI dA ad adV A H locs ls C hl hr hx)
theorem x_abs {x : Int32} (hd1 : 1 ≤ d) (hc : g.2.2.1 ≤ CM ∧ g.2.2.2 ≤ SM) (hw : xmathW Lib.Math.abs.name Lib.Math.abs.code 1) (hl0 : Cond.methodLink Y.1.cls idx Lib.Math.abs.name ∈ wsL_law) (hd : decode Y.2.1 pc = .ok (.invokestatic idx, 3)) (hsum : (st.map fun v => v.category).sum ≤ 8) (K : X T Y d CM SM P (pc + 3) lv (.int (if 0 ≤ x then x else 0 - x) :: st) g I R L) : X T Y d CM SM P pc lv (.int x :: st) g I R L := by
  intro p l e Rm s m args below meth c Q dC dI dA ad adV A H locs ls C hl hr hx
  obtain ⟨c1, c2, c3, c4, c5, c6, c7, c8, c9, -⟩ := id C
  have hz := xsum (ad := ad) hsum
  exact va_mabs c1 c2 (c9.trans hl.1.symm) c3 (c4 _ hl0) (c4 _ hw.1) (c4 _ hw.2.1) (c4 _ hw.2.2) (by omega) (by omega) (Nat.le_trans hc.1 c7.2.2.1) (Nat.le_trans hc.2 c7.2.2.2) hd (K p l e Rm s m args below meth c Q dC dI dA ad adV A H locs ls C hl hr hx)
theorem x_objInit {r : Nat} (hd1 : 1 ≤ d) (hl0 : Cond.methodLink Y.1.cls idx Lib.objectInit ∈ wsL_law) (hi : Cond.instanceMethod Lib.objectInit ∈ wsL_law) (hcd : Cond.code Lib.objectInit ⟨#[0xb1]⟩ 1 none ∈ wsL_law) (hd : decode Y.2.1 pc = .ok (.invokespecial idx, 3)) (hsum : (st.map fun v => v.category).sum ≤ 8) (K : X T Y d CM SM P (pc + 3) lv st g I R L) : X T Y d CM SM P pc lv (.ref r :: st) g I R L := by
  intro p l e Rm s m args below meth c Q dC dI dA ad adV A H locs ls C hl hr hx
  obtain ⟨c1, c2, c3, c4, c5, c6, c7, c8, c9, -⟩ := id C
  have hz := xsum (ad := ad) hsum
  refine W.objInit c1 c2 c3 (c4 _ hl0) (c4 _ hi) (c4 _ hcd) rfl (hl.1.trans c9.symm) rfl hd (by omega) ?_ (K p l e Rm s m args below meth c Q dC dI dA ad adV A H locs ls C hl hr hx)
  show 2 * 0 + _ + 12 ≤ _
  omega
/-- System.arraycopy of longs -/
theorem x_copyl {q0 q1 n0 n1 : Nat} {sp dp n : Int32} (hd1 : 1 ≤ d) (hl0 : Cond.methodLink Y.1.cls idx arraycopyName ∈ wsL_law) (hw : Cond.native arraycopyName ∈ wsL_law ∧ Cond.static arraycopyName ∈ wsL_law ∧ Cond.initialized "java/lang/System" ∈ wsL_law) (hs0 : g.2.1 q0 = (3, n0)) (hs1 : g.2.1 q1 = (3, n1))
    (h1 : ¬ sp < 0) (h2 : ¬ dp < 0) (h3 : ¬ n < 0) (h4 : sp.toNatClampNeg + n.toNatClampNeg ≤ n0) (h5 : dp.toNatClampNeg + n.toNatClampNeg ≤ n1) (hd : decode Y.2.1 pc = .ok (.invokestatic idx, 3)) (hsum : (st.map fun v => v.category).sum ≤ 8)
    (K : X T Y d CM SM P (pc + 3) lv st g I R (fun a => if a = q1 then va_cpy (L q0) (L q1) sp.toNatClampNeg dp.toNatClampNeg n.toNatClampNeg else L a)) : X T Y d CM SM P pc lv (.int n :: .int dp :: .ref q1 :: .int sp :: .ref q0 :: st) g I R L := by
  intro p l e Rm s m args below meth c Q dC dI dA ad adV A H locs ls C hl hr hx
  obtain ⟨c1, c2, c3, c4, c5, c6, c7, c8, c9, -⟩ := id C
  obtain ⟨hP, hD, hS, hk⟩ := hr
  have hz := xsum (ad := ad) hsum
  have hat0 := xw_at (dA := dA) (ad := ad) (I := I) (R := R) (L := L) (hk.lt hs0 (by omega))
  have hat1 := xw_at (dA := dA) (ad := ad) (I := I) (R := R) (L := L) (hk.lt hs1 (by omega))
  rw [hs0] at hat0
  rw [hs1] at hat1
  refine va_copyl c1 c2 (c9.trans hl.1.symm) c3 (c4 _ hl0) (c4 _ hw.1) (c4 _ hw.2.1) (c4 _ hw.2.2) c5 hP hD hS q0 q1 2 2 hat0 hat1 rfl rfl rfl h1 h2 h3 h4 h5 (fun _ _ => rfl) (by omega) ?_ hd (fun H1 locs1 hP1 hD1 hS1 => ?_)
  · have : nativeFrameWords "java/lang/System" "arraycopy" 5 = 7 := by decide
    omega
  · have he : (xw dA ad g I R L).set q1 (ad q1, .inl (dA 2, n1, .inr (.inl (va_cpy (L q0) (L q1) sp.toNatClampNeg dp.toNatClampNeg n.toNatClampNeg)))) = xw dA ad g I R (fun a => if a = q1 then va_cpy (L q0) (L q1) sp.toNatClampNeg dp.toNatClampNeg n.toNatClampNeg else L a) := by
      refine xw_set (hk.lt hs1 (by omega)) ?_ (fun b hb => ⟨rfl, rfl, if_neg hb⟩)
      rw [hs1]
      show (Sum.inl (dA 2, n1, _) : va_E) = Sum.inl (dA 2, n1, _)
      dsimp only
      rw [if_pos rfl]
    rw [he] at hP1 hD1
    exact K p l e Rm s m args below meth c Q dC dI dA ad adV A H1 locs1 ls C hl ⟨hP1, hD1, hS1, hk⟩ hx
end XMORE
