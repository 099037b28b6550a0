/-! THE CLAIM OUT OF ONE WALK OF THE LAW'S BODY. Your part is whole_start (and what it stands on); all else here is the same for every law, but numbers. -/
def R_law : String := "LionRingLaw"
def lw_P (b : Addr) (xs : List Int32) (args : Array Value) (s : State) : Prop := args = #[.ref b] ∧ s.IntsAt b xs ∧ xs.length ≤ 3072 ∧ (Jvm.Cond.and given_1 narrow_1).before args s = true
def lw_Q (_ : Array Value) (s : State) (o : Outcome) (t : State) : Prop := o = .returned (some (.int 1)) ∧ Framed s o t [] 600000 7302250
def lw_Z (below : List Frame) (a : Array Value) (s : State) : State → Prop := fun t => ∃ o, t.status = .running ∧ Ended t below o ∧ lw_Q a s o t
/-- the law's own end, with 1 on the stack, nothing written that was there before, its room as the claim has it -/
theorem lw_ret {p : Program} {l : Launch} {e : Env} {s : State} {m : MethodId} {below : List Frame} {meth : Method} {c : Code} {b : Nat} (hx : p.tables.exec = Jvm.exec) (hb : c.code = code) (hr : meth.sig.returnType = ret) (hlocks : meth.locks = false) {pc : Nat} {H : Heap} {ls : Array Slot} (hdg : decode code pc = .ok (.ireturn, 1)) : W p l e room_1 s m #[Value.ref b] below meth c H [] 600000 7302250 (lw_Z below #[Value.ref b] s) (F0 m pc ls [.int 1]) := by
  intro T hT X
  obtain ⟨fs, hret, hrun, hended, hW, hframe⟩ := X.leave (v := some (.int 1)) (hlocks := hlocks) (fun h => by rw [hr] at h; cases h)
  have hmeth' : T.vm.method? m = some meth := X.method'
  refine ⟨T.setFrames fs, ?_, .returned (some (.int 1)), hrun, hended, rfl, ⟨_, rfl⟩, hW, hframe⟩
  jvm_step X.here [X.here.top, hx, hb, hdg, hmeth', hr, ret, narrow_b1]
  (try refine ⟨rfl, ?_⟩); (try refine ⟨rfl, ?_⟩)
  first | (intro acts; rw [hret _ acts rfl rfl rfl]) | rw [hret _ _ rfl rfl rfl]
  exact Steps.refl _
/-- what holds at the law's entry: the machine, the code, the tables' words (any of lw_tbl by 'hts w (by decide +kernel)'), the script of L ints xs at the cell b, what the Statement gives of the start (any of its parts by flat_of_before) -/
def lw_At (p : Program) (s : State) (m : MethodId) (meth : Method) (c : Code) (b L : Nat) (xs : Nat → Int32) : Prop :=
  p.tables.exec = Jvm.exec ∧ c.code = code ∧ meth.sig.returnType = ret ∧ c.maxLocals = 4 ∧ s.vm.findClass R_law = some m.cls ∧ (∀ w ∈ lw_tbl, w.before #[Value.ref b] s = true) ∧ va_X b L xs s s.heap ∧ b < s.heap.size ∧ meth.locks = false ∧ (Jvm.Cond.and given_1 narrow_1).before #[Value.ref b] s = true
section START
variable {s : State} {args : Array Value}
theorem kn_of {own : String} {idx ci : Nat} (h : xCls own idx ci) (hW : ∀ w ∈ wsL_law, w.before args s = true) : ∃ z : ClassId × (Nat → Nat), ∀ q, vwCl[ci]? = some q → u_Kn s q.1 q.2.1 q.2.2 z.1 z.2 := by
  obtain ⟨Cn, Tt, ty, f1, f2, f3, f4, f5, f6, f7⟩ := h
  obtain ⟨cC, iS, hK⟩ := u_known hW f2 (hW _ f5)
  exact ⟨(cC, iS), fun q hq => by rw [f1] at hq; cases hq; exact hK⟩
theorem kn_all (hW : ∀ w ∈ wsL_law, w.before args s = true) : ∀ c : Nat, ∃ z : ClassId × (Nat → Nat), ∀ q, vwCl[c]? = some q → u_Kn s q.1 q.2.1 q.2.2 z.1 z.2
  | 0 => kn_of kc_RX9_59 hW
  | 1 => kn_of kc_RX9_45 hW
  | 2 => kn_of kc_RX6_58 hW
  | 3 => kn_of kc_RX9_28 hW
  | 4 => kn_of kc_RX9_35 hW
  | 5 => kn_of kc_RX6_9 hW
  | 6 => kn_of kc_RX9_9 hW
  | 7 => kn_of kc_RX9_52 hW
  | 8 => kn_of kc_RX9_66 hW
  | 9 => kn_of kc_RL_7 hW
  | 10 => kn_of kc_RL_10 hW
  | c + 11 => ⟨(0, fun _ => 0), fun q hq => by
    have h9 : vwCl[c + 11]? = none := rfl
    rw [h9] at hq
    cases hq⟩
theorem ty_prim {ty : FieldType} (h : (Cond.arrayClass ty).before args s = true) (hy : ty = .int ∨ ty = .boolean ∨ ty = .long) : ∃ cA : ClassId, ArrOfT s cA ty ∧ va_RA s cA ty := by
  obtain ⟨cA, kA, comp, h1, h2, h3⟩ := Cond.arrayClass_spec h
  refine ⟨cA, fun N z => ⟨(fun k h => by cases h), kA, h2, comp, h3⟩, ?_⟩
  rcases hy with rfl | rfl | rfl <;> exact h1
theorem ty_obj {C : String} (h : (Cond.arrayOver (.object C)).before args s = true) : ∃ cA : ClassId, ArrOfT s cA (.object C) ∧ va_RA s cA (.object C) := by
  obtain ⟨comp, cA, kA, h1, h2, h3, h4, h5⟩ := Cond.arrayOver_spec h
  exact ⟨cA, fun N z => ⟨(fun k h => by cases h), kA, h3, comp, h4⟩, kA, comp, h3, h4, h1, h5⟩
theorem vk_S.cong {N : Nat} {len : List Nat} {byt : List (List Int32)} {aK aV bK bV : Nat → Nat} {A : Nat → Prop} {U : State} {H : Heap} (h : vk_S N len byt aK aV A U H) (e1 : ∀ i, i < N → bK i = aK i) (e2 : ∀ i, i < N → bV i = aV i) : vk_S N len byt bK bV A U H :=
  ⟨fun i hi => by rw [e1 i hi, e2 i hi]; exact h.1 i hi, fun i j hi hj e => h.2 i j hi hj (by rw [← e1 i hi, ← e1 j hj]; exact e)⟩
theorem xn_in : ∀ q ∈ xnest, Cond.methodLinkNest q.1 q.2.1 q.2.2.1 q.2.2.2 ∈ lw_tbl := by decide +kernel
end START
/-- the texts' terms -/
def stm (i : Nat) : Term := .string "LionRing$Reader" ([49, 51, 53].getD i 0)
theorem str_of {s : State} {b : Nat} {A : Nat → Prop} (hg : ∀ c ∈ flatC (Jvm.Cond.and given_1 narrow_1), c.before #[Value.ref b] s = true) (hA : ∀ a : Nat, a < s.heap.size → ¬ A a) : ∃ adK adV : Nat → Nat, vk_S 3 xlen xbyt adK adV A s s.heap ∧ ∀ i : Nat, i < 3 → (stm i).eval #[Value.ref b] s none [] s = some (.ref (adK i)) := by
  refine vk_Sof (by decide) (fun i hi => ?_) (fun i hi => ?_) (fun i hi => ?_) (fun i hi => ?_) (fun i hi j hj => ?_) (fun i j hi hj hij => ?_) hA
  · have h : ∀ i, i < 3 → (Cond.exactly (stm i) "java/lang/String") ∈ flatC (Jvm.Cond.and given_1 narrow_1) := by decide +kernel
    exact hg _ (h i hi)
  · have h : ∀ i, i < 3 → (Cond.eq (.field (stm i) "java/lang/String" "coder" "B") (.int 0)) ∈ flatC (Jvm.Cond.and given_1 narrow_1) := by decide +kernel
    exact hg _ (h i hi)
  · have h : ∀ i, i < 3 → (Cond.arrayOf (.field (stm i) "java/lang/String" "value" "[B") .byte) ∈ flatC (Jvm.Cond.and given_1 narrow_1) := by decide +kernel
    exact hg _ (h i hi)
  · have h : ∀ i, i < 3 → (Cond.eq (.length (.field (stm i) "java/lang/String" "value" "[B")) (.int (Int32.ofNat (xlen.getD i 0)))) ∈ flatC (Jvm.Cond.and given_1 narrow_1) := by decide +kernel
    exact hg _ (h i hi)
  · have h : ∀ i, i < 3 → ∀ j, j < xlen.getD i 0 → (Cond.eq (.elem (.field (stm i) "java/lang/String" "value" "[B") (.int (Int32.ofNat j))) (.int ((xbyt.getD i []).getD j 0))) ∈ flatC (Jvm.Cond.and given_1 narrow_1) := by decide +kernel
    exact hg _ (h i hi j hj)
  · have h : ∀ i, i < 3 → ∀ j, j < 3 → i < j → (Cond.not (Cond.eq (stm i) (stm j))) ∈ flatC (Jvm.Cond.and given_1 narrow_1) := by decide +kernel
    by_cases z : i < j
    · exact Or.inl (hg _ (h i hi j hj z))
    · exact Or.inr (hg _ (h j hj i hi (by omega)))
set_option maxHeartbeats 4000000 in
set_option maxRecDepth 100000 in
/-- from the entry, for every script of at most 3072 ints, the law comes to its end with true -/
theorem whole_start {p : Program} {e : Env} {s : State} {m : MethodId} {below : List Frame} {meth : Method} {c : Code} (l : Launch) (hflags : l.flags = flags0) {b L : Nat} {xs : Nat → Int32} (hL : L ≤ 3072) (C0 : lw_At p s m meth c b L xs) : W p l e room_1 s m #[Value.ref b] below meth c s.heap [] 0 0 (lw_Z below #[Value.ref b] s) (entryFrame m ([Value.ref b] : List Value).toArray 4) := by
  obtain ⟨hx, hb, hr, hml, hown, hts, hX, hbl, hlocks, hgv⟩ := id C0
  have hW : ∀ w ∈ wsL_law, w.before #[Value.ref b] s = true := fun w h => hts w (wsL_law_in w h)
  have hg := flat_of_before _ hgv
  have hA : ∀ a : Nat, a < s.heap.size → ¬ (fun q : Nat => s.heap.size ≤ q) a := fun a h => Nat.not_le.mpr h
  obtain ⟨D, hD⟩ := Classical.axiomOfChoice (kn_all hW)
  obtain ⟨cI, tI⟩ := ty_prim (hW _ kr_int) (Or.inl rfl)
  obtain ⟨cZ, tZ⟩ := ty_prim (hW _ kr_boolean) (Or.inr (Or.inl rfl))
  obtain ⟨cJ, tJ⟩ := ty_prim (hW _ kr_long) (Or.inr (Or.inr rfl))
  have oR : (Cond.arrayOver (.object "LionRing$Ring")).before #[Value.ref b] s = true := hts _ (by decide +kernel)
  have oT : (Cond.arrayOver (.object "LionRing$Tape")).before #[Value.ref b] s = true := hts _ (by decide +kernel)
  obtain ⟨cR, tR⟩ := ty_obj oR
  obtain ⟨cT, tT⟩ := ty_obj oT
  obtain ⟨adK, adV, hS, hE⟩ := str_of hg hA
  obtain ⟨t, hF⟩ : ∃ t : Nat, va_Z "jdk/internal/util/Preconditions" "SIOOBE_FORMATTER" "Ljava/util/function/BiFunction;" .null (fun q : Nat => s.heap.size ≤ q) s s.heap ∨ va_Z "jdk/internal/util/Preconditions" "SIOOBE_FORMATTER" "Ljava/util/function/BiFunction;" (.ref t) (fun q : Nat => s.heap.size ≤ q) s s.heap := by
    have h9 : va_Zq "jdk/internal/util/Preconditions" "SIOOBE_FORMATTER" "Ljava/util/function/BiFunction;" (fun q : Nat => s.heap.size ≤ q) s s.heap := va_Zqof (hts _ (by decide +kernel)) (hts _ (by decide +kernel)) (hg _ (by decide +kernel)) hA
    rcases h9 with h | ⟨t, h⟩
    · exact ⟨0, Or.inl h⟩
    · exact ⟨t, Or.inr h⟩
  have hC : va_Z "java/lang/String" "COMPACT_STRINGS" "Z" (.int 1) (fun q : Nat => s.heap.size ≤ q) s s.heap := va_Zof (hts _ (by decide +kernel)) (hts _ (by decide +kernel)) (va_eqt (hg (.eq (.static "java/lang/String" "COMPACT_STRINGS" "Z") (.int 1)) (by decide +kernel))) hA
  obtain ⟨ad, ea⟩ : ∃ ad : Nat → Nat, ad = fun k => if k = 1000000 then b else if k = 1000020 then t else if 1000011 ≤ k then adV (k - 1000011) else adK (k - 1000001) := ⟨_, rfl⟩
  have a0 : ad 1000000 = b := by rw [ea]; rfl
  have a20 : ad 1000020 = t := by rw [ea]; rfl
  have aK : ∀ i, i < 3 → ad (1000001 + i) = adK i := fun i hi => by
    rw [ea]
    show (if 1000001 + i = 1000000 then b else if 1000001 + i = 1000020 then t else if 1000011 ≤ 1000001 + i then adV (1000001 + i - 1000011) else adK (1000001 + i - 1000001)) = adK i
    rw [if_neg (by omega), if_neg (by omega), if_neg (by omega), show 1000001 + i - 1000001 = i by omega]
  have aV : ∀ i, i < 3 → ad (1000011 + i) = adV i := fun i hi => by
    rw [ea]
    show (if 1000011 + i = 1000000 then b else if 1000011 + i = 1000020 then t else if 1000011 ≤ 1000011 + i then adV (1000011 + i - 1000011) else adK (1000011 + i - 1000001)) = adV i
    rw [if_neg (by omega), if_neg (by omega), if_pos (by omega), show 1000011 + i - 1000011 = i by omega]
  obtain ⟨dA, eD⟩ : ∃ dA : Nat → ClassId, dA = fun k => if k = 0 then cI else if k = 1 then cZ else if k = 2 then cJ else if k = 3 then cR else cT := ⟨_, rfl⟩
  have hK : va_K (fun k => (D k).1, fun k => (D k).2) vwCl (xty dA) s := by
    refine ⟨fun k q hq => hD k q hq, fun k q hq => ?_⟩
    subst eD
    match k, hq with
    | 0, hq => cases hq; exact tI
    | 1, hq => cases hq; exact tZ
    | 2, hq => cases hq; exact tJ
    | 3, hq => cases hq; exact tR
    | 4, hq => cases hq; exact tT
    | k + 5, hq => cases hq
  have hZ : xZ (L, xs) ad ad (fun q : Nat => s.heap.size ≤ q) s s.heap := by
    refine ⟨by rw [a0]; exact hX, by rw [a0]; exact Nat.not_le.mpr hbl, by rw [a0]; exact hbl, hS.cong aK aV, hC, by rw [a20]; exact hF, vk_R.of (hts _ (by decide +kernel)) ((hE 0 (by decide)).trans (by rw [← aK 0 (by decide)])), vk_R.of (hts _ (by decide +kernel)) ((hE 1 (by decide)).trans (by rw [← aK 1 (by decide)])), vk_R.of (hts _ (by decide +kernel)) ((hE 2 (by decide)).trans (by rw [← aK 2 (by decide)])), va_AO.of oR, va_AO.of oT, fun q hq => va_tabs rfl rfl (hts _ (xn_in q hq))⟩
  have hl := lv_entry ([.ref b]) (n := 4) (Nat.le_of_ble_eq_true rfl)
  rw [lg_entry_eq]
  generalize (lg_sl ([.ref b]) ++ List.replicate (4 - (lg_sl ([.ref b])).length) Slot.unset).toArray = ls at hl ⊢
  have hl : lv_has ls 4 [(0, .ref b)] := hl
  have e0 : ∀ (k : Nat) (q : Nat × va_E), ([] : va_W)[k]? = some q → False := fun k q h => by simp at h
  have hP0 : va_P (fun k => (D k).1, fun k => (D k).2) vwCl (xw dA ad (0, fun _ => (6, 0), 0, 0) (fun _ _ => 0) (fun _ _ => none) (fun _ _ => 0)) s.heap := fun k q h => (e0 k q h).elim
  have hD0 : va_D (fun q : Nat => s.heap.size ≤ q) (xw dA ad (0, fun _ => (6, 0), 0, 0) (fun _ _ => 0) (fun _ _ => none) (fun _ _ => 0)) := ⟨fun i j p q h => (e0 i p h).elim, fun k q h => (e0 k q h).elim⟩
  refine lw_all (T := (L, xs)) (P := fun _ _ _ _ v => v = some (.int 1)) hL (fun _ _ _ _ => rfl) p l e room_1 s m #[Value.ref b] below meth c (lw_Z below #[Value.ref b] s) (fun k => (D k).1) (fun k => (D k).2) dA ad ad (fun q : Nat => s.heap.size ≤ q) s.heap [] ls ⟨hx, hb, hown, hW, hK, fun q h => h, ⟨by decide, by decide, by decide, by decide⟩, hZ, hml, hr, hlocks, fun h => absurd h (by decide)⟩ ?_ ⟨hP0, hD0, va_S.rf, fun a _ => Nat.le_refl 6⟩ (fun g' I' R' L' ad' v H' locs' ls' pc' hv hx1 hret hrep => ?_)
  · show lv_has ls 4 [(0, .ref (ad 1000000))]
    rw [a0]
    exact hl
  · subst hv
    refine va_forget (fun q hq => hrep.2.2.1.2.2 q hq) ?_
    exact lw_ret hx hb hr hlocks hret.1
