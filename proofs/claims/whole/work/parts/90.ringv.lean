/-! ===== ring: what is read, as a value ===== -/
def dCL : xCL := (0, 0, eT 0 0 0)
/-- the clauses as a value: words 0 yield, 1 come, 2 loud -/
def arOf (acc : List xCL) : xAR := (acc.length, fun i => 2 - (acc.getD i dCL).1, fun i => (acc.getD i dCL).2.1, fun i => (acc.getD i dCL).2.2.2.2)
/-- a clause that is well read -/
def CLK (x : xCL) : Prop := x.1 < 3 ∧ x.2.1 < 100 ∧ (x.1 ≠ 0 → EVM x.2.2 ∧ EVC x.2.2 ∧ tsN x.2.2.1 ≤ 34)
theorem clWd_lt {c : Nat} : clWd c < 3 := by
  unfold clWd
  repeat' split
  all_goals decide
theorem CLR.k {nx : Nat → Nat} {p : Nat} {r : xCQ xCL} (h : CLR nx p r) (h100 : r.1 ≤ 100) : ∀ x, r.2 = some x → CLK x := by
  intro x hx
  rcases h with ⟨_, e⟩ | ⟨_, _, e⟩ | ⟨q, k, _, hn, h⟩
  · rw [e] at hx
    cases hx
  · rw [e] at hx
    cases hx
  · have hk := (numF_p hn).2
    rcases h with ⟨_, e⟩ | ⟨_, _, e⟩ | ⟨h1, _, h⟩
    · rw [e] at hx
      cases hx
      exact ⟨by show 0 < 3; decide, hk, fun z => absurd rfl z⟩
    · rw [e] at hx
      cases hx
    · rcases h with ⟨q2, _, e⟩ | ⟨q2, ee, hp, e⟩
      · rw [e] at hx
        cases hx
      · rw [e] at hx h100
        cases hx
        obtain ⟨g1, g2, g3, g4, g5, g6, g7⟩ := pd_gd hp ee rfl
        have g1 : q + 1 + 3 * tsN ee.1 ≤ q2 := g1
        have h100 : q2 ≤ 100 := h100
        exact ⟨clWd_lt, hk, fun _ => ⟨g5, g6, by show tsN ee.1 ≤ 34; omega⟩⟩
/-- places: never beyond -/
def RNK (acc : List xCL) : Prop := acc.length ≤ 8 ∧ ∀ x ∈ acc, CLK x
theorem clr_le {t : xX} (hx : XOK t) {p : Nat} {r : xCQ xCL} (h : CLR (nxX t) p r) {x : xCL} (e : r.2 = some x) (hq : r.1 = t.1 ∨ nxX t r.1 = 59) : r.1 ≤ 100 := by
  rcases hq with z | z
  · rw [z]
    exact hx.1
  · have h1 := nxX_lt z (by decide)
    have := hx.1
    omega
theorem rln_k {t : xX} (hx : XOK t) {q : Nat} {acc2 : List xCL} : ∀ (m p : Nat) (acc : List xCL), m + acc.length ≤ 8 → (∀ x ∈ acc, CLK x) → RLN (nxX t) t.1 m p acc (q, some acc2) → RNK acc2
  | 0, p, acc, _, _, h => h.elim
  | m + 1, p, acc, hm, ha, h => by
    obtain ⟨c, hc, h⟩ := h
    obtain ⟨q1, c2⟩ := c
    cases c2 with
    | none => cases h
    | some x =>
      have h : RTL (nxX t) t.1 (RLN (nxX t) t.1 m) m q1 (acc ++ [x]) (q, some acc2) := h
      have hlen : (acc ++ [x]).length = acc.length + 1 := by rw [List.length_append]; rfl
      have g : ∀ (_ : q1 = t.1 ∨ nxX t q1 = 59), ∀ y ∈ acc ++ [x], CLK y := fun hq y hy => by
        rcases List.mem_append.mp hy with z | z
        · exact ha y z
        · rw [List.mem_singleton.mp z]
          exact CLR.k hc (clr_le hx hc rfl hq) x rfl
      unfold RTL at h
      by_cases z : q1 = t.1
      · rw [if_pos z] at h
        cases h
        exact ⟨by omega, g (Or.inl z)⟩
      · rw [if_neg z] at h
        by_cases y : m = 0
        · rw [if_pos y] at h
          cases h
        · rw [if_neg y] at h
          by_cases w : nxX t q1 = 59
          · rw [if_pos w] at h
            exact rln_k hx m (q1 + 1) (acc ++ [x]) (by omega) (g (Or.inr w)) h
          · rw [if_neg w] at h
            cases h
theorem getD_l {acc : List xCL} {x : xCL} {k : Nat} (h : k < acc.length) : (acc ++ [x]).getD k dCL = acc.getD k dCL := by
  rw [List.getD_eq_getElem?_getD, List.getD_eq_getElem?_getD, List.getElem?_append_left h]
theorem getD_r {acc : List xCL} {x : xCL} : (acc ++ [x]).getD acc.length dCL = x := by
  rw [List.getD_eq_getElem?_getD, List.getElem?_append_right (Nat.le_refl _), Nat.sub_self]
  rfl
theorem sumA_c {a b : xAR} {w a1 a2 a3 a4 a5 : Nat} : ∀ k, (∀ i, i < k → a.2.1 i = b.2.1 i ∧ a.2.2.1 i = b.2.2.1 i ∧ a.2.2.2 i = b.2.2.2 i) → sumA a w a1 a2 a3 a4 a5 k = sumA b w a1 a2 a3 a4 a5 k
  | 0, _ => rfl
  | k + 1, h => by
    obtain ⟨h1, h2, h3⟩ := h k (by omega)
    show sumA a w a1 a2 a3 a4 a5 k + (if a.2.1 k = w ∧ a.2.2.2 k a1 a2 a3 a4 a5 = true then a.2.2.1 k else 0) = sumA b w a1 a2 a3 a4 a5 k + (if b.2.1 k = w ∧ b.2.2.2 k a1 a2 a3 a4 a5 = true then b.2.2.1 k else 0)
    rw [sumA_c k (fun i hi => h i (by omega)), h1, h2, h3]
theorem loudA_c {a b : xAR} : ∀ k, (∀ i, i < k → a.2.1 i = b.2.1 i ∧ a.2.2.1 i = b.2.2.1 i) → loudA a k = loudA b k
  | 0, _ => rfl
  | k + 1, h => by
    obtain ⟨h1, h2⟩ := h k (by omega)
    show (if a.2.1 k = 2 then a.2.2.1 k else loudA a k) = (if b.2.1 k = 2 then b.2.2.1 k else loudA b k)
    rw [loudA_c k (fun i hi => h i (by omega)), h1, h2]
theorem arOf_l {acc : List xCL} {x : xCL} : ∀ i, i < acc.length → (arOf (acc ++ [x])).2.1 i = (arOf acc).2.1 i ∧ (arOf (acc ++ [x])).2.2.1 i = (arOf acc).2.2.1 i ∧ (arOf (acc ++ [x])).2.2.2 i = (arOf acc).2.2.2 i := fun i hi => by
  refine ⟨?_, ?_, ?_⟩
  · show 2 - ((acc ++ [x]).getD i dCL).1 = 2 - (acc.getD i dCL).1
    rw [getD_l hi]
  · show ((acc ++ [x]).getD i dCL).2.1 = (acc.getD i dCL).2.1
    rw [getD_l hi]
  · show ((acc ++ [x]).getD i dCL).2.2.2.2 = (acc.getD i dCL).2.2.2.2
    rw [getD_l hi]
theorem sum_s {acc : List xCL} {x : xCL} {w a1 a2 a3 a4 a5 : Nat} : sumA (arOf (acc ++ [x])) w a1 a2 a3 a4 a5 (acc.length + 1) = sumA (arOf acc) w a1 a2 a3 a4 a5 acc.length + (if 2 - x.1 = w ∧ x.2.2.2.2 a1 a2 a3 a4 a5 = true then x.2.1 else 0) := by
  show sumA (arOf (acc ++ [x])) w a1 a2 a3 a4 a5 acc.length + (if 2 - ((acc ++ [x]).getD acc.length dCL).1 = w ∧ ((acc ++ [x]).getD acc.length dCL).2.2.2.2 a1 a2 a3 a4 a5 = true then ((acc ++ [x]).getD acc.length dCL).2.1 else 0) = _
  rw [sumA_c _ arOf_l, getD_r]
theorem loud_s {acc : List xCL} {x : xCL} : loudA (arOf (acc ++ [x])) (acc.length + 1) = if 2 - x.1 = 2 then x.2.1 else loudA (arOf acc) acc.length := by
  show (if 2 - ((acc ++ [x]).getD acc.length dCL).1 = 2 then ((acc ++ [x]).getD acc.length dCL).2.1 else loudA (arOf (acc ++ [x])) acc.length) = _
  rw [loudA_c _ (fun i hi => ⟨(arOf_l i hi).1, (arOf_l i hi).2.1⟩), getD_r]
/-- induction from the end -/
theorem snoc_i {M : List xCL → Prop} (h0 : M []) (hs : ∀ acc x, M acc → M (acc ++ [x])) (acc : List xCL) : M acc := by
  have g : ∀ n (l : List xCL), l.length = n → M l := fun n => by
    induction n with
    | zero => exact fun l hl => by rw [List.length_eq_zero_iff.mp hl]; exact h0
    | succ n ih =>
      intro l hl
      have hne : l ≠ [] := fun z => by rw [z] at hl; cases hl
      have e := List.dropLast_concat_getLast hne
      rw [← e]
      exact hs _ _ (ih _ (by rw [List.length_dropLast]; omega))
  exact g acc.length acc rfl
theorem ld_loud {acc : List xCL} : (∀ x ∈ acc, CLK x) → ldN acc = loudA (arOf acc) acc.length ∧ ldN acc < 100 := by
  refine snoc_i (M := fun acc => (∀ x ∈ acc, CLK x) → ldN acc = loudA (arOf acc) acc.length ∧ ldN acc < 100) (fun _ => ⟨rfl, by decide⟩) (fun acc x ih h => ?_) acc
  have i1 := ih (fun y hy => h y (List.mem_append.mpr (Or.inl hy)))
  have hx := h x (List.mem_append.mpr (Or.inr (List.mem_singleton.mpr rfl)))
  have hlen : (acc ++ [x]).length = acc.length + 1 := by rw [List.length_append]; rfl
  have h3 := hx.1
  rw [hlen, loud_s, ldN_s]
  by_cases z : x.1 = 0
  · rw [if_pos z, if_pos (by omega)]
    exact ⟨rfl, hx.2.1⟩
  · rw [if_neg z, if_neg (by omega)]
    exact i1

theorem fold_take {lk pf sf nf : Nat → Int32} {y0 c0 : Int32} {l : List (Nat × Nat × Nat)} (h : ∀ i x, l[i]? = some x → pf i = nI x.1 ∧ sf i = nI x.2.1 ∧ nf i = nI x.2.2) : ∀ k, k ≤ l.length → foldC lk pf sf nf y0 c0 k = (l.take k).foldl (stL lk) (0, y0, c0)
  | 0, _ => rfl
  | k + 1, hk => by
    obtain ⟨x, hx⟩ : ∃ x, l[k]? = some x := ⟨l[k], List.getElem?_eq_getElem (by omega)⟩
    obtain ⟨e1, e2, e3⟩ := h k x hx
    rw [List.take_add_one, hx]
    show stC lk pf sf nf k (foldC lk pf sf nf y0 c0 k) = (l.take k ++ [x]).foldl (stL lk) (0, y0, c0)
    rw [List.foldl_append, fold_take h k (by omega)]
    show stC lk pf sf nf k _ = stC lk (fun _ => nI x.1) (fun _ => nI x.2.1) (fun _ => nI x.2.2) 0 _
    unfold stC
    rw [e1, e2, e3]
theorem nI_ad2 {a : Nat} {k : Nat} {v : Bool} {t : Nat} (ht : 2 * t + 1 < 2 ^ 63) : nI a + (if lg_cmp (lN (2 * t + b2n v) &&& 1) 0 = 0 then 0 else nI k) = nI (a + (if v = true then k else 0)) := by
  cases v
  · rw [if_pos ((lN_if ht).mpr rfl), if_neg (by decide)]
    exact Int32.add_zero _
  · rw [if_neg (fun q => absurd ((lN_if ht).mp q) (by decide)), if_pos rfl]
    exact nI_add a k
theorem fl_val {acc : List xCL} {f : Nat → Int32} {a1 a2 a3 a4 a5 : Nat} (f1 : f 0 = nI a1) (f2 : f 1 = nI a2) (f3 : f 2 = nI a3) (f4 : f 3 = nI a4) (f5 : f 4 = nI a5) (k1 : a1 < 100) (k2 : a2 < 100) (k3 : a3 < 100) (k4 : a4 < 100) (k5 : a5 < 100) : (∀ x ∈ acc, CLK x) → (flL acc).foldl (stL f) (0, 0, 0) = (0, nI (sumA (arOf acc) 0 a1 a2 a3 a4 a5 acc.length), nI (sumA (arOf acc) 1 a1 a2 a3 a4 a5 acc.length)) := by
  refine snoc_i (M := fun acc => (∀ x ∈ acc, CLK x) → (flL acc).foldl (stL f) (0, 0, 0) = (0, nI (sumA (arOf acc) 0 a1 a2 a3 a4 a5 acc.length), nI (sumA (arOf acc) 1 a1 a2 a3 a4 a5 acc.length))) (fun _ => rfl) (fun acc x ih h => ?_) acc
  have i1 := ih (fun y hy => h y (List.mem_append.mpr (Or.inl hy)))
  obtain ⟨x3, xk, xe⟩ := h x (List.mem_append.mpr (Or.inr (List.mem_singleton.mpr rfl)))
  have hlen : (acc ++ [x]).length = acc.length + 1 := by rw [List.length_append]; rfl
  rw [hlen, sum_s, sum_s, flL_s, List.foldl_append, i1]
  unfold clL
  by_cases z : x.1 = 0
  · rw [if_pos z, if_neg (show ¬ (2 - x.1 = 0 ∧ x.2.2.2.2 a1 a2 a3 a4 a5 = true) by omega), if_neg (show ¬ (2 - x.1 = 1 ∧ x.2.2.2.2 a1 a2 a3 a4 a5 = true) by omega)]
    rfl
  · obtain ⟨_, ec, et⟩ := xe z
    have hp : (0 + 1) * 2 ^ tsN x.2.2.1 ≤ 2 ^ 62 := by
      have := Nat.pow_le_pow_right (show 0 < 2 by decide) (show tsN x.2.2.1 ≤ 62 by omega)
      omega
    have e1 := ec f a1 a2 a3 a4 a5 f1 f2 f3 f4 f5 k1 k2 k3 k4 k5 0 (nI (sumA (arOf acc) 0 a1 a2 a3 a4 a5 acc.length)) (nI (sumA (arOf acc) 1 a1 a2 a3 a4 a5 acc.length)) hp
    have e1 : x.2.2.1.foldl (stL f) (0, nI (sumA (arOf acc) 0 a1 a2 a3 a4 a5 acc.length), nI (sumA (arOf acc) 1 a1 a2 a3 a4 a5 acc.length)) = _ := e1
    rw [if_neg z, List.foldl_append, e1]
    generalize x.2.2.2.2 a1 a2 a3 a4 a5 = v
    generalize sumA (arOf acc) 0 a1 a2 a3 a4 a5 acc.length = A
    generalize sumA (arOf acc) 1 a1 a2 a3 a4 a5 acc.length = C
    by_cases y : x.1 = 1
    · rw [if_pos y, if_neg (show ¬ (2 - x.1 = 0 ∧ v = true) by omega)]
      show ((0 : Int64), nI A, nI C + (if lg_cmp (lN (2 * 0 + b2n v) &&& 1) 0 = 0 then 0 else nI x.2.1)) = _
      rw [nI_ad2 (t := 0) (by decide)]
      by_cases w : v = true
      · rw [if_pos w, if_pos ⟨by omega, w⟩]
        rfl
      · rw [if_neg w, if_neg (fun q => w q.2)]
        rfl
    · rw [if_neg y, if_neg (show ¬ (2 - x.1 = 1 ∧ v = true) by omega)]
      show ((0 : Int64), nI A + (if lg_cmp (lN (2 * 0 + b2n v) &&& 1) 0 = 0 then 0 else nI x.2.1), nI C) = _
      rw [nI_ad2 (t := 0) (by decide)]
      by_cases w : v = true
      · rw [if_pos w, if_pos ⟨by omega, w⟩]
        rfl
      · rw [if_neg w, if_neg (fun q => w q.2)]
        rfl
theorem arOf_100 {acc : List xCL} (h : ∀ x ∈ acc, CLK x) : ∀ c, c < (arOf acc).1 → (arOf acc).2.2.1 c < 100 := fun c hc => by
  have hc : c < acc.length := hc
  show (acc.getD c dCL).2.1 < 100
  rw [List.getD_eq_getElem?_getD, List.getElem?_eq_getElem hc]
  exact (h _ (List.getElem_mem hc)).2.1
/-- the class's new RING -/
theorem rg_new {I : xI} {c : Nat} {acc : List xCL} (hd : DR I c (flL acc)) (h : RNK acc) : rgEval I c (lnOf (arOf acc)) := by
  obtain ⟨h1, h2, h3, h4, h5⟩ := hd
  refine ⟨(flL acc).length, h1, h2, h3, h4, fun f a1 a2 a3 a4 a5 f1 f2 f3 f4 f5 k1 k2 k3 k4 k5 => ?_⟩
  have e := fold_take (lk := f) (y0 := 0) (c0 := 0) h5 (flL acc).length (Nat.le_refl _)
  rw [List.take_length, fl_val f1 f2 f3 f4 f5 k1 k2 k3 k4 k5 h.2] at e
  have h8 := h.1
  refine ⟨by rw [e]; rfl, ?_, ?_⟩
  · have := sumA_le (w := 0) (a1 := a1) (a2 := a2) (a3 := a3) (a4 := a4) (a5 := a5) (arOf_100 h.2) (arOf acc).1 (Nat.le_refl _)
    have e8 : (arOf acc).1 = acc.length := rfl
    show sumA (arOf acc) 0 a1 a2 a3 a4 a5 (arOf acc).1 < 100000
    omega
  · have := sumA_le (w := 1) (a1 := a1) (a2 := a2) (a3 := a3) (a4 := a4) (a5 := a5) (arOf_100 h.2) (arOf acc).1 (Nat.le_refl _)
    have e8 : (arOf acc).1 = acc.length := rfl
    show sumA (arOf acc) 1 a1 a2 a3 a4 a5 (arOf acc).1 < 100000
    omega

