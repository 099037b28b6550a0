/-! ===== bits of longs (begun from the kit's texts for pasting); walks ===== -/
theorem wb_tb (n : Nat) : (lN n).toBitVec = BitVec.ofNat 64 n := rfl
theorem wb_inj {a b : Int64} (h : a.toBitVec = b.toBitVec) : a = b := Int64.toBitVec_inj.mp h
theorem wb_tn {n : Nat} (h : n < 2 ^ 64) : (lN n).toBitVec.toNat = n := by rw [wb_tb, BitVec.toNat_ofNat, Nat.mod_eq_of_lt h]
theorem wb_c : ∀ k, k < 64 → ((nI k).toInt64 &&& 63) = lN k := by decide +kernel
theorem wb_cu : ∀ k, k < 64 → ((nI k).toInt64.toUInt64 &&& Int64.toUInt64 63) = UInt64.ofNat k := by decide +kernel
theorem wb_sm : ∀ k, k < 64 → (BitVec.ofNat 64 k).smod 64 = BitVec.ofNat 64 k := by decide +kernel
theorem wb_lt2 {a b : Nat} (h : a < b) : 2 ^ a < 2 ^ b := Nat.pow_lt_pow_right (by decide) h
theorem wb_shr {n k : Nat} (hn : n < 2 ^ 64) (hk : k < 64) : ((lN n).toUInt64 >>> ((nI k).toInt64.toUInt64 &&& Int64.toUInt64 63)).toInt64 = lN (n / 2 ^ k) := by
  rw [wb_cu k hk]
  apply wb_inj
  apply BitVec.eq_of_toNat_eq
  show ((lN n).toUInt64 >>> UInt64.ofNat k).toNat = (BitVec.ofNat 64 _).toNat
  have h1 : (UInt64.ofNat k).toNat = k := by
    show (BitVec.ofNat 64 k).toNat = k
    rw [BitVec.toNat_ofNat, Nat.mod_eq_of_lt (by omega)]
  have h2 : (lN n).toUInt64.toNat = n := wb_tn hn
  rw [UInt64.toNat_shiftRight, h1, h2, Nat.mod_eq_of_lt hk, Nat.shiftRight_eq_div_pow, BitVec.toNat_ofNat, Nat.mod_eq_of_lt (Nat.lt_of_le_of_lt (Nat.div_le_self _ _) hn)]
theorem wb_shl (n : Nat) {k : Nat} (hk : k < 64) : lN n <<< ((nI k).toInt64 &&& 63) = lN (n * 2 ^ k) := by
  rw [wb_c k hk]
  apply wb_inj
  rw [Int64.toBitVec_shiftLeft, wb_tb, wb_tb, wb_tb, wb_sm k hk]
  apply BitVec.eq_of_toNat_eq
  rw [BitVec.shiftLeft_eq', BitVec.toNat_shiftLeft, BitVec.toNat_ofNat, BitVec.toNat_ofNat, BitVec.toNat_ofNat, Nat.mod_eq_of_lt (show k < 2 ^ 64 by omega), Nat.shiftLeft_eq, Nat.mul_mod, Nat.mod_mod, ← Nat.mul_mod]
theorem wb_and {a b : Nat} (ha : a < 2 ^ 64) (hb : b < 2 ^ 64) : lN a &&& lN b = lN (a &&& b) := by
  apply wb_inj
  rw [Int64.toBitVec_and, wb_tb, wb_tb, wb_tb]
  apply BitVec.eq_of_toNat_eq
  rw [BitVec.toNat_and, BitVec.toNat_ofNat, BitVec.toNat_ofNat, BitVec.toNat_ofNat, Nat.mod_eq_of_lt ha, Nat.mod_eq_of_lt hb, Nat.mod_eq_of_lt (Nat.and_lt_two_pow _ hb)]
theorem wb_or {a b : Nat} (ha : a < 2 ^ 64) (hb : b < 2 ^ 64) : lN a ||| lN b = lN (a ||| b) := by
  apply wb_inj
  rw [Int64.toBitVec_or, wb_tb, wb_tb, wb_tb]
  apply BitVec.eq_of_toNat_eq
  rw [BitVec.toNat_or, BitVec.toNat_ofNat, BitVec.toNat_ofNat, BitVec.toNat_ofNat, Nat.mod_eq_of_lt ha, Nat.mod_eq_of_lt hb, Nat.mod_eq_of_lt (Nat.or_lt_two_pow ha hb)]
theorem wb_mask {n k : Nat} (hn : n < 2 ^ 64) (hk : k < 64) : lN n &&& lN (2 ^ k - 1) = lN (n % 2 ^ k) := by
  rw [wb_and hn (by have := wb_lt2 hk; omega), Nat.and_two_pow_sub_one_eq_mod]

abbrev ob {α β : Type} (x : Option α) (f : α → Option β) : Option β := match x with
  | none => none
  | some a => f a
theorem ob_n {α β : Type} {x : Option α} {f : α → Option β} (h : x = none) : ob x f = none := by
  rw [h]
theorem ob_s {α β : Type} {x : Option α} {f : α → Option β} {a : α} (h : x = some a) : ob x f = f a := by
  rw [h]
/-- the first of a row for which f says something -/
def fS {α β : Type} (f : α → Option β) : List α → Option β
  | [] => none
  | a :: l => match f a with
    | some b => some b
    | none => fS f l
section FSS
variable {α β γ : Type} {f g : α → Option β} {a : α} {l : List α}
theorem fS_s {b : β} (h : f a = some b) : fS f (a :: l) = some b := by
  show (match f a with | some b => some b | none => fS f l) = _
  rw [h]
theorem fS_n (h : f a = none) : fS f (a :: l) = fS f l := by
  show (match f a with | some b => some b | none => fS f l) = _
  rw [h]
theorem fS_none : ∀ {l : List α}, (∀ a ∈ l, f a = none) → fS f l = none
  | [], _ => rfl
  | a :: l, h => (fS_n (h a List.mem_cons_self)).trans (fS_none (fun b hb => h b (List.mem_cons_of_mem _ hb)))
theorem fS_allnone : ∀ {l : List α}, fS f l = none → ∀ a ∈ l, f a = none
  | a :: l, h, b, hb => by
    cases e : f a with
    | some z => rw [fS_s e] at h; cases h
    | none =>
      rw [fS_n e] at h
      rcases List.mem_cons.mp hb with q | q
      · rw [q]; exact e
      · exact fS_allnone h b q
theorem fS_congr : ∀ {l : List α}, (∀ a ∈ l, f a = g a) → fS f l = fS g l
  | [], _ => rfl
  | a :: l, h => by
    have ih := fS_congr (l := l) (fun b hb => h b (List.mem_cons_of_mem _ hb))
    have e := h a List.mem_cons_self
    cases q : g a with
    | some z => rw [fS_s (e.trans q), fS_s q]
    | none => rw [fS_n (e.trans q), fS_n q, ih]
theorem fS_app : ∀ (l l2 : List α), fS f (l ++ l2) = match fS f l with | some b => some b | none => fS f l2
  | [], _ => rfl
  | a :: l, l2 => by
    cases q : f a with
    | some z => rw [List.cons_append, fS_s q, fS_s q]
    | none => rw [List.cons_append, fS_n q, fS_n q, fS_app l l2]
theorem fS_filter {p : α → Bool} : ∀ {l : List α}, (∀ a ∈ l, p a = false → f a = none) → fS f l = fS f (l.filter p)
  | [], _ => rfl
  | a :: l, h => by
    have ih := fS_filter (p := p) (l := l) (fun b hb => h b (List.mem_cons_of_mem _ hb))
    cases q : p a with
    | false => rw [fS_n (h a List.mem_cons_self q), List.filter_cons_of_neg (by rw [q]; decide), ih]
    | true =>
      rw [List.filter_cons_of_pos q]
      cases e : f a with
      | some z => rw [fS_s e, fS_s e]
      | none => rw [fS_n e, fS_n e, ih]
theorem fS_fmap {h : γ → Option α} : ∀ {l : List γ}, fS f (l.filterMap h) = fS (fun c => ob (h c) (fun a => f a)) l
  | [] => rfl
  | c :: l => by
    have ih := fS_fmap (h := h) (l := l)
    cases q : h c with
    | none => rw [List.filterMap_cons_none q, fS_n (f := fun c => ob (h c) (fun a => f a)) (by show (ob (h c) (fun a => f a)) = none; rw [q]), ih]
    | some a =>
      rw [List.filterMap_cons_some q]
      have e0 : (ob (h c) (fun a => f a)) = f a := by rw [q]
      cases e : f a with
      | some z => rw [fS_s e, fS_s (f := fun c => ob (h c) (fun a => f a)) (e0.trans e)]
      | none => rw [fS_n e, fS_n (f := fun c => ob (h c) (fun a => f a)) (e0.trans e), ih]
theorem fS_flat {h : γ → List α} : ∀ {l : List γ}, fS f (l.flatMap h) = fS (fun c => fS f (h c)) l
  | [] => rfl
  | c :: l => by
    have ih := fS_flat (h := h) (l := l)
    rw [List.flatMap_cons, fS_app]
    cases q : fS f (h c) with
    | some z => rw [fS_s (f := fun c => fS f (h c)) q]
    | none => rw [fS_n (f := fun c => fS f (h c)) q, ← ih]
theorem fS_map {u : β → γ} : ∀ {l : List α}, (ob (fS f l) (fun b => some (u b))) = fS (fun a => ob (f a) (fun b => some (u b))) l
  | [] => rfl
  | a :: l => by
    have ih := fS_map (u := u) (l := l)
    cases q : f a with
    | some z => rw [fS_s q, fS_s (f := fun a => ob (f a) (fun b => some (u b))) (b := u z) (by show (ob (f a) (fun b => some (u b))) = _; rw [q])]
    | none => rw [fS_n q, fS_n (f := fun a => ob (f a) (fun b => some (u b))) (by show (ob (f a) (fun b => some (u b))) = none; rw [q]), ih]
end FSS
/-- a scene on a walk: where the beasts are, where the tamer is -/
abbrev xS : Type := (Nat → Nat) × Nat
def sTen (V : xV) (o : Option xAR) (d : Nat) (s : xS) (c : Nat) : Nat → Nat := tenthF (V 8 0) (V 0) (V 1) s.1 (V 3) (V 4) c (V 8 2 + d) 0 (lnO o) (V 8 0)
def sgo (V : xV) (o : Option xAR) (d : Nat) (s : xS) (c : Nat) : Option xS := if c = s.2 ∨ (rnd c s.2 = 1 ∧ held (V 8 0) s.1 c = false) then (if held (V 8 0) (sTen V o d s c) c = true then none else some (sTen V o d s c, c)) else none
theorem sgo_n {V : xV} {o : Option xAR} {d : Nat} {s : xS} {c : Nat} (h : ¬ (c = s.2 ∨ (rnd c s.2 = 1 ∧ held (V 8 0) s.1 c = false))) : sgo V o d s c = none := if_neg h
theorem sgo_c {V : xV} {o : Option xAR} {d : Nat} {s : xS} {c : Nat} (h2 : held (V 8 0) (sTen V o d s c) c = true) : sgo V o d s c = none := by
  by_cases h : c = s.2 ∨ (rnd c s.2 = 1 ∧ held (V 8 0) s.1 c = false)
  · exact (if_pos h).trans (if_pos h2)
  · exact if_neg h
theorem sgo_s {V : xV} {o : Option xAR} {d : Nat} {s : xS} {c : Nat} (h : c = s.2 ∨ (rnd c s.2 = 1 ∧ held (V 8 0) s.1 c = false)) (h2 : held (V 8 0) (sTen V o d s c) c = false) : sgo V o d s c = some (sTen V o d s c, c) := (if_pos h).trans (if_neg (by rw [h2]; decide))
theorem sgo_is {V : xV} {o : Option xAR} {d : Nat} {s s' : xS} {c : Nat} (h : sgo V o d s c = some s') : s' = (sTen V o d s c, c) := by
  unfold sgo at h
  split at h
  · split at h
    · cases h
    · exact (Option.some.inj h).symm
  · cases h
/-- depth first: the first walk of r tenths more behind which the beast is on its stool -/
def dfs (V : xV) (o : Option xAR) (b : Nat) : Nat → Nat → xS → Option (List Nat)
  | 0, _, s => if s.1 b = V 3 b then some [] else none
  | r + 1, d, s => fS (fun c => ob (sgo V o d s c) (fun s' => ob (dfs V o b r (d + 1) s') (fun w => some (c :: w)))) (List.range 36)
/-- the ways of the tamer -/
def wyc (ta i : Nat) : Option Nat := if i = 2 then some ta else nxt ta (if i < 2 then i else i - 1)
theorem wyc_all : ∀ ta, ta < 36 → (List.range 36).filter (fun c => c == ta || rnd c ta == 1) = (List.range 5).filterMap (wyc ta) := by decide +kernel
theorem wyc_lt {ta i c : Nat} (h : ta < 36) (q : wyc ta i = some c) : c < 36 := by
  unfold wyc at q
  split at q
  · have := Option.some.inj q
    omega
  · exact nxt_lt8 h q
def sw (V : xV) (o : Option xAR) (d : Nat) (s : xS) (i : Nat) : Option xS := ob (wyc s.2 i) (fun c => sgo V o d s c)
theorem sw_n {V : xV} {o : Option xAR} {d : Nat} {s : xS} {i : Nat} (h : wyc s.2 i = none) : sw V o d s i = none := ob_n h
theorem sw_s {V : xV} {o : Option xAR} {d : Nat} {s : xS} {i c : Nat} (h : wyc s.2 i = some c) : sw V o d s i = sgo V o d s c := ob_s h
def SOK (V : xV) (s : xS) : Prop := s.2 < 36 ∧ ∀ i, i < V 8 0 → s.1 i < 36
theorem sw_ok {V : xV} {o : Option xAR} {d i : Nat} {s s' : xS} (h : SOK V s) (q : sw V o d s i = some s') : SOK V s' := by
  unfold sw at q
  cases e : wyc s.2 i with
  | none => rw [e] at q; cases q
  | some c =>
    rw [e] at q
    have := sgo_is q
    subst this
    exact ⟨wyc_lt h.1 e, fun i hi => tenthF_lt h.2 _ (Nat.le_refl _) i hi⟩
theorem dfs_w {V : xV} {o : Option xAR} {b r d : Nat} {s : xS} (h : SOK V s) : dfs V o b (r + 1) d s = fS (fun i => ob (sw V o d s i) (fun s' => ob (dfs V o b r (d + 1) s') (fun w => some (s'.2 :: w)))) (List.range 5) := by
  have e1 : dfs V o b (r + 1) d s = fS (fun c => ob (sgo V o d s c) (fun s' => ob (dfs V o b r (d + 1) s') (fun w => some (c :: w)))) ((List.range 36).filter (fun c => c == s.2 || rnd c s.2 == 1)) := by
    refine fS_filter (fun c hc hp => ?_)
    have hn : ¬ (c = s.2 ∨ (rnd c s.2 = 1 ∧ held (V 8 0) s.1 c = false)) := fun q => by
      rcases q with q | q
      · rw [q] at hp; simp at hp
      · rw [show (rnd c s.2 == 1) = true from by rw [q.1]; rfl, Bool.or_true] at hp
        cases hp
    show (ob (sgo V o d s c) (fun s' => _)) = none
    rw [sgo_n hn]
  rw [e1, wyc_all s.2 h.1, fS_fmap]
  refine fS_congr (fun i hi => ?_)
  show (ob (wyc s.2 i) (fun c => ob (sgo V o d s c) (fun s' => ob (dfs V o b r (d + 1) s') (fun w => some (c :: w))))) = _
  cases e : wyc s.2 i with
  | none => rw [sw_n e]
  | some c =>
    rw [sw_s e]
    show (ob (sgo V o d s c) (fun s' => ob (dfs V o b r (d + 1) s') (fun w => some (c :: w)))) = _
    cases e2 : sgo V o d s c with
    | none => rfl
    | some s' =>
      have e3 := sgo_is e2
      subst e3
      rfl
/-- a beast goes a cell in a tenth at most -/
theorem pick_near {ok : Nat → Bool} {bet : Nat → Nat → Bool} {own : Nat} : ∀ s, pick ok bet own s = own ∨ ∃ t, nxt own t = some (pick ok bet own s)
  | 0 => Or.inl rfl
  | s + 1 => by
    have ih := pick_near (ok := ok) (bet := bet) (own := own) s
    cases h : nxt own s with
    | none => rw [pick_none h]; exact ih
    | some z =>
      cases h2 : (ok z && bet z (pick ok bet own s)) with
      | true =>
        rw [pick_yes h (by simp at h2; exact h2.1) (by simp at h2; exact h2.2)]
        exact Or.inr ⟨s, h⟩
      | false =>
        rw [pick_no h (by
          cases q : ok z with
          | false => exact Or.inl rfl
          | true => rw [q] at h2; exact Or.inr h2)]
        exact ih
def nearC (own z : Nat) : Prop := z = own ∨ ∃ t, nxt own t = some z
theorem dCome_near {nb : Nat} {ce : Nat → Nat} {into : Bool} {ta goal own code : Nat} : nearC own (dCome nb ce into ta goal own code).2 := by
  unfold dCome
  split
  · exact Or.inl rfl
  · exact pick_near 4
theorem deedN_near {nb ta te lo : Nat} {ki ve ce sto hu : Nat → Nat} {LN : xLN} {bi : Nat} : nearC (ce bi) (deedN nb ki ve ce sto hu ta te lo LN bi).2 := by
  have hy : nearC (ce bi) (yPk nb ce ta (ce bi) 4) := pick_near 4
  unfold deedN deedF yDeed
  repeat' split
  all_goals first | exact Or.inl rfl | exact hy | exact dCome_near
theorem ap_tri {a b c : Nat} : ap a c ≤ ap a b + ap b c := by
  unfold ap
  split <;> split <;> split <;> omega
theorem rnd_tri {a b c : Nat} : rnd a c ≤ rnd a b + rnd b c := by
  have h1 := @ap_tri (a / 6) (b / 6) (c / 6)
  have h2 := @ap_tri (a % 6) (b % 6) (c % 6)
  unfold rnd
  omega
theorem rnd_near {own x t z : Nat} (ho : own < 36) (ht : t < 4) (hz : z < 36) (h : nxt own t = some z) : rnd own x ≤ rnd z x + 1 := by
  have h1 := rnd_nxt own ho t ht z hz h
  have h2 := @rnd_tri own z x
  omega
theorem nearC_rnd {own z x : Nat} (ho : own < 36) (hx : x < 36) (h : nearC own z) : rnd own x ≤ rnd z x + 1 := by
  rcases h with h | ⟨t, h⟩
  · rw [h]; omega
  · obtain ⟨t', ht, h'⟩ := nxt_4 h
    exact rnd_near ho ht (nxt_lt8 ho h) h'
theorem tenthF_keep {nb ta te lo : Nat} {ki ve ce sto hu : Nat → Nat} {LN : xLN} {i : Nat} : ∀ k, k ≤ i → tenthF nb ki ve ce sto hu ta te lo LN k i = ce i
  | 0, _ => rfl
  | k + 1, h => (if_neg (by omega)).trans (tenthF_keep k (by omega))
theorem tenthF_done {nb ta te lo : Nat} {ki ve ce sto hu : Nat → Nat} {LN : xLN} {i : Nat} : ∀ k, i < k → tenthF nb ki ve ce sto hu ta te lo LN k i = (deedN nb ki ve (tenthF nb ki ve ce sto hu ta te lo LN i) sto hu ta te lo LN i).2
  | 0, h => absurd h (by omega)
  | k + 1, h => by
    by_cases e : i = k
    · subst e
      exact if_pos rfl
    · exact (if_neg e).trans (tenthF_done k (by omega))
theorem sTen_near {V : xV} {o : Option xAR} {d c b : Nat} {s : xS} (h : SOK V s) (hb : b < V 8 0) {x : Nat} (hx : x < 36) : rnd (s.1 b) x ≤ rnd (sTen V o d s c b) x + 1 := by
  have e : sTen V o d s c b = _ := tenthF_done (V 8 0) hb
  rw [e]
  have q := @deedN_near (V 8 0) c (V 8 2 + d) 0 (V 0) (V 1) (tenthF (V 8 0) (V 0) (V 1) s.1 (V 3) (V 4) c (V 8 2 + d) 0 (lnO o) b) (V 3) (V 4) (lnO o) b
  rw [tenthF_keep b (Nat.le_refl _)] at q
  exact nearC_rnd (h.2 b hb) hx q
theorem dfs_far {V : xV} {o : Option xAR} {b : Nat} (hb : b < V 8 0) (h3 : V 3 b < 36) : ∀ (r d : Nat) (s : xS), SOK V s → r < rnd (s.1 b) (V 3 b) → dfs V o b r d s = none
  | 0, _, s, _, h => if_neg (fun q => by rw [q, rnd_self] at h; omega)
  | r + 1, d, s, hs, h => by
    rw [dfs_w hs]
    refine fS_none (fun i _ => ?_)
    show (ob (sw V o d s i) (fun s' => _)) = none
    cases e : sw V o d s i with
    | none => rfl
    | some s' =>
      have hs' := sw_ok hs e
      have : r < rnd (s'.1 b) (V 3 b) := by
        unfold sw at e
        cases e2 : wyc s.2 i with
        | none => rw [e2] at e; cases e
        | some c =>
          rw [e2] at e
          have e3 := sgo_is e
          subst e3
          have := sTen_near (o := o) (d := d) (c := c) hs hb h3
          show r < rnd (sTen V o d s c b) (V 3 b)
          omega
      show (ob (dfs V o b r (d + 1) s') (fun w => some (s'.2 :: w))) = none
      rw [dfs_far hb h3 r (d + 1) s' hs' this]
def seat (V : xV) (b : Nat) (s : xS) : Bool := decide (s.1 b = V 3 b)
def kok (V : xV) (b d : Nat) (s : xS) : Bool := decide (rnd (s.1 b) (V 3 b) + d ≤ 5)
/-- with pruning -/
theorem seat_t {V : xV} {b : Nat} {s : xS} (h : s.1 b = V 3 b) : seat V b s = true := decide_eq_true h
theorem seat_f {V : xV} {b : Nat} {s : xS} (h : ¬ s.1 b = V 3 b) : ¬ seat V b s = true := fun z => h (of_decide_eq_true z)
theorem kok_t {V : xV} {b d : Nat} {s : xS} (h : rnd (s.1 b) (V 3 b) + d ≤ 5) : kok V b d s = true := decide_eq_true h
theorem kok_f {V : xV} {b d : Nat} {s : xS} (h : ¬ rnd (s.1 b) (V 3 b) + d ≤ 5) : ¬ kok V b d s = true := fun z => h (of_decide_eq_true z)
def dfsP (V : xV) (o : Option xAR) (b : Nat) : Nat → Nat → xS → Option (List Nat)
  | 0, _, _ => none
  | r + 1, d, s => fS (fun i => ob (sw V o d s i) (fun s' => if seat V b s' = true then (if r = 0 then some [s'.2] else none) else if r = 0 then none else if kok V b (d + 1) s' = true then (ob (dfsP V o b r (d + 1) s') (fun w => some (s'.2 :: w))) else none)) (List.range 5)
theorem dfsP_eq {V : xV} {o : Option xAR} {b : Nat} (hb : b < V 8 0) (h3 : V 3 b < 36) : ∀ (n d : Nat) (s : xS), SOK V s → d + (n + 1) ≤ 5 → (∀ m, m < n + 1 → dfs V o b m d s = none) → dfsP V o b (n + 1) d s = dfs V o b (n + 1) d s
  | 0, d, s, hs, hd, hm => by
    rw [dfs_w hs]
    refine fS_congr (fun i hi => ?_)
    show (ob (sw V o d s i) (fun s' => _)) = _
    cases e : sw V o d s i with
    | none => rfl
    | some s' =>
      have hs' := sw_ok hs e
      show (if seat V b s' = true then (if 0 = 0 then some [s'.2] else none) else if 0 = 0 then none else if kok V b (d + 1) s' = true then _ else none) = (ob (dfs V o b 0 (d + 1) s') (fun w => some (s'.2 :: w)))
      have low : ∀ m, m < 0 → dfs V o b m (d + 1) s' = none := fun m hmn => by
        have q := hm (m + 1) (by omega)
        rw [dfs_w hs] at q
        have q2 := fS_allnone q i hi
        have q3 : (ob (sw V o d s i) (fun s' => ob (dfs V o b m (d + 1) s') (fun w => some (s'.2 :: w)))) = none := q2
        rw [e] at q3
        cases e4 : dfs V o b m (d + 1) s' with
        | none => rfl
        | some w =>
          have q4 : (ob (dfs V o b m (d + 1) s') (fun w => some (s'.2 :: w))) = none := q3
          rw [e4] at q4
          cases q4
      · by_cases q : s'.1 b = V 3 b
        · rw [if_pos (seat_t q), if_pos rfl]
          show _ = (ob (if s'.1 b = V 3 b then some [] else none) (fun w => some (s'.2 :: w)))
          rw [if_pos q]
        · rw [if_neg (seat_f q), if_pos rfl]
          show _ = (ob (if s'.1 b = V 3 b then some [] else none) (fun w => some (s'.2 :: w)))
          rw [if_neg q]
  | n + 1, d, s, hs, hd, hm => by
    rw [dfs_w hs]
    refine fS_congr (fun i hi => ?_)
    show (ob (sw V o d s i) (fun s' => _)) = _
    cases e : sw V o d s i with
    | none => rfl
    | some s' =>
      have hs' := sw_ok hs e
      show (if seat V b s' = true then (if (n + 1) = 0 then some [s'.2] else none) else if (n + 1) = 0 then none else if kok V b (d + 1) s' = true then _ else none) = (ob (dfs V o b (n + 1) (d + 1) s') (fun w => some (s'.2 :: w)))
      have low : ∀ m, m < (n + 1) → dfs V o b m (d + 1) s' = none := fun m hmn => by
        have q := hm (m + 1) (by omega)
        rw [dfs_w hs] at q
        have q2 := fS_allnone q i hi
        have q3 : (ob (sw V o d s i) (fun s' => ob (dfs V o b m (d + 1) s') (fun w => some (s'.2 :: w)))) = none := q2
        rw [e] at q3
        cases e4 : dfs V o b m (d + 1) s' with
        | none => rfl
        | some w =>
          have q4 : (ob (dfs V o b m (d + 1) s') (fun w => some (s'.2 :: w))) = none := q3
          rw [e4] at q4
          cases q4
      · have ns : ¬ s'.1 b = V 3 b := fun q => by
          have z := low 0 (by omega)
          have z2 : (if s'.1 b = V 3 b then some ([] : List Nat) else none) = none := z
          rw [if_pos q] at z2
          cases z2
        rw [if_neg (seat_f ns), if_neg (by omega)]
        by_cases q : rnd (s'.1 b) (V 3 b) + (d + 1) ≤ 5
        · rw [if_pos (kok_t q), dfsP_eq hb h3 n (d + 1) s' hs' (by omega) low]
        · rw [if_neg (kok_f q), dfs_far hb h3 (n + 1) (d + 1) s' hs' (by omega)]
/-- breadth first: entries with the walk that was told -/
abbrev xE : Type := xS × List Nat
def fc (V : xV) (o : Option xAR) (b : Nat) (e : xE) (i : Nat) : Option (List Nat) := ob (sw V o e.2.length e.1 i) (fun s' => if seat V b s' = true then some (e.2 ++ [s'.2]) else none)
def kc (V : xV) (o : Option xAR) (b : Nat) (e : xE) (i : Nat) : Option xE := ob (sw V o e.2.length e.1 i) (fun s' => if seat V b s' = true then none else if kok V b (e.2.length + 1) s' = true then some (s', e.2 ++ [s'.2]) else none)
def fnd (V : xV) (o : Option xAR) (b : Nat) (e : xE) : Option (List Nat) := fS (fc V o b e) (List.range 5)
def kids (V : xV) (o : Option xAR) (b : Nat) (e : xE) : List xE := (List.range 5).filterMap (kc V o b e)
/-- cells and tamer in one number -/
def pkN (ce : Nat → Nat) (ta : Nat) : Nat → Nat
  | 0 => ta
  | k + 1 => pkN ce ta k * 64 + ce k
theorem pkN_inj {ce ce' : Nat → Nat} {ta ta' : Nat} : ∀ k, (∀ i, i < k → ce i < 64) → (∀ i, i < k → ce' i < 64) → pkN ce ta k = pkN ce' ta' k → ta = ta' ∧ ∀ i, i < k → ce i = ce' i
  | 0, _, _, h => ⟨h, fun i hi => absurd hi (by omega)⟩
  | k + 1, h1, h2, h => by
    have a := h1 k (by omega)
    have b := h2 k (by omega)
    have h : pkN ce ta k * 64 + ce k = pkN ce' ta' k * 64 + ce' k := h
    have q : pkN ce ta k = pkN ce' ta' k := by omega
    have e : ce k = ce' k := by omega
    have ih := pkN_inj k (fun i hi => h1 i (by omega)) (fun i hi => h2 i (by omega)) q
    refine ⟨ih.1, fun i hi => ?_⟩
    by_cases z : i = k
    · rw [z]; exact e
    · exact ih.2 i (by omega)
section IKS
variable {nb p l : Nat} {x y a : xE} {t s q P B : List xE}
/-- is there such a one already: from the last one on, as long as the walks are as long -/
def ikR (nb p l : Nat) : List xE → Bool
  | [] => false
  | y :: t => if y.2.length = l then (if pkN y.1.1 y.1.2 nb = p then true else ikR nb p l t) else false
theorem ikR_n (h : ¬ y.2.length = l) : ikR nb p l (y :: t) = false := if_neg h
theorem ikR_y (h : y.2.length = l) (h2 : pkN y.1.1 y.1.2 nb = p) : ikR nb p l (y :: t) = true := (if_pos h).trans (if_pos h2)
theorem ikR_s (h : y.2.length = l) (h2 : ¬ pkN y.1.1 y.1.2 nb = p) : ikR nb p l (y :: t) = ikR nb p l t := (if_pos h).trans (if_neg h2)
theorem ikR_mem : ∀ {t : List xE}, ikR nb p l t = true → ∃ y ∈ t, y.2.length = l ∧ pkN y.1.1 y.1.2 nb = p
  | [], h => by cases h
  | y :: t, h => by
    by_cases a : y.2.length = l
    · by_cases b : pkN y.1.1 y.1.2 nb = p
      · exact ⟨y, List.mem_cons_self, a, b⟩
      · rw [ikR_s a b] at h
        obtain ⟨z, hz, h2⟩ := ikR_mem h
        exact ⟨z, List.mem_cons_of_mem _ hz, h2⟩
    · rw [ikR_n a] at h
      cases h
theorem ikR_cut (h : ¬ a.2.length = l) : ∀ {t : List xE}, ikR nb p l (t ++ a :: s) = ikR nb p l t
  | [] => ikR_n h
  | y :: t => by
    by_cases q : y.2.length = l
    · by_cases b : pkN y.1.1 y.1.2 nb = p
      · rw [List.cons_append, ikR_y q b, ikR_y q b]
      · rw [List.cons_append, ikR_s q b, ikR_s q b, ikR_cut h]
    · rw [List.cons_append, ikR_n q, ikR_n q]
def ikp (nb : Nat) (q : List xE) (x : xE) : Bool := ikR nb (pkN x.1.1 x.1.2 nb) x.2.length q.reverse
def wkK (nb : Nat) (q : List xE) (x : xE) : List xE := if ikp nb q x = true then q else q ++ [x]
/-- those of a row that are not kept yet come behind -/
def wkL (nb : Nat) (q l : List xE) : List xE := l.foldl (wkK nb) q
theorem wkK_t (h : ikp nb q x = true) : wkK nb q x = q := if_pos h
theorem wkK_f (h : ikp nb q x = false) : wkK nb q x = q ++ [x] := if_neg (by rw [h]; decide)
theorem ikp_cut (h : ¬ a.2.length = x.2.length) : ikp nb ((P ++ [a]) ++ B) x = ikp nb B x := by
  unfold ikp
  rw [show ((P ++ [a]) ++ B).reverse = B.reverse ++ a :: P.reverse from by simp]
  exact ikR_cut h
theorem wkL_cons {l : List xE} : wkL nb q (x :: l) = wkL nb (wkK nb q x) l := rfl
theorem wkL_app {l m : List xE} : wkL nb q (l ++ m) = wkL nb (wkL nb q l) m := List.foldl_append
theorem wkL_snoc {l : List xE} : wkL nb q (l ++ [x]) = wkK nb (wkL nb q l) x := wkL_app
theorem wkL_is : ∀ (l q : List xE), ∃ nw, wkL nb q l = q ++ nw ∧ nw.length ≤ l.length ∧ ∀ x ∈ nw, x ∈ l
  | [], q => ⟨[], (List.append_nil _).symm, Nat.le_refl _, fun x hx => hx⟩
  | x :: l, q => by
    cases h : ikp nb q x with
    | true =>
      obtain ⟨nw, h1, h2, h3⟩ := wkL_is l q
      refine ⟨nw, ?_, by rw [List.length_cons]; omega, fun y hy => List.mem_cons_of_mem _ (h3 y hy)⟩
      rw [wkL_cons, wkK_t h]
      exact h1
    | false =>
      obtain ⟨nw, h1, h2, h3⟩ := wkL_is l (q ++ [x])
      refine ⟨x :: nw, ?_, by rw [List.length_cons, List.length_cons]; omega, fun y hy => ?_⟩
      · rw [wkL_cons, wkK_f h, h1, List.append_assoc]
        rfl
      · rcases List.mem_cons.mp hy with z | z
        · rw [z]; exact List.mem_cons_self
        · exact List.mem_cons_of_mem _ (h3 y z)
theorem wkL_cut : ∀ (l B : List xE), (∀ x ∈ l, ¬ a.2.length = x.2.length) → wkL nb ((P ++ [a]) ++ B) l = (P ++ [a]) ++ wkL nb B l
  | [], B, _ => rfl
  | x :: l, B, h => by
    have hx := h x List.mem_cons_self
    have hl : ∀ y ∈ l, ¬ a.2.length = y.2.length := fun y hy => h y (List.mem_cons_of_mem _ hy)
    rw [wkL_cons, wkL_cons]
    cases q : ikp nb B x with
    | true =>
      rw [wkK_t q, wkK_t ((ikp_cut hx).trans q)]
      exact wkL_cut l B hl
    | false =>
      rw [wkK_f q, wkK_f ((ikp_cut hx).trans q), List.append_assoc (P ++ [a]) B [x]]
      exact wkL_cut l (B ++ [x]) hl
theorem snoc_ex : ∀ (A : List xE), A = [] ∨ ∃ P a, A = P ++ [a]
  | [] => Or.inl rfl
  | x :: A => by
    rcases snoc_ex A with h | ⟨P, a, h⟩
    · exact Or.inr ⟨[], x, by rw [h]; rfl⟩
    · exact Or.inr ⟨x :: P, a, by rw [h]; rfl⟩
def depthIs (d : Nat) (q : List xE) : Prop := ∀ e ∈ q, e.2.length = d
theorem wkL_lev {d : Nat} {A B l : List xE} (hA : depthIs d A) (hl : depthIs (d + 1) l) : wkL nb (A ++ B) l = A ++ wkL nb B l := by
  rcases snoc_ex A with h | ⟨P, a, h⟩
  · subst h
    rfl
  · subst h
    refine wkL_cut l B (fun x hx => ?_)
    rw [hl x hx, hA a (List.mem_append_right _ List.mem_cons_self)]
    omega
theorem wkL_0 {l : List xE} : (wkL nb [] l).length ≤ l.length ∧ ∀ x ∈ wkL nb [] l, x ∈ l := by
  obtain ⟨nw, h1, h2, h3⟩ := @wkL_is nb l []
  rw [h1, List.nil_append]
  exact ⟨h2, h3⟩
/-- what is kept once is found as early -/
theorem fS_ded {g : xE → Option (List Nat)} {S : xE → Prop} (hg : ∀ x y, S x → S y → y.2.length = x.2.length → pkN y.1.1 y.1.2 nb = pkN x.1.1 x.1.2 nb → g y = none → g x = none) : ∀ (l B : List xE), (∀ x ∈ B, S x) → (∀ x ∈ l, S x) → fS g (wkL nb B l) = fS g (B ++ l)
  | [], B, _, _ => by
    rw [List.append_nil]
    rfl
  | x :: l, B, hB, hl => by
    have hx := hl x List.mem_cons_self
    have hl' : ∀ y ∈ l, S y := fun y hy => hl y (List.mem_cons_of_mem _ hy)
    rw [wkL_cons]
    cases q : ikp nb B x with
    | true =>
      rw [wkK_t q, fS_ded hg l B hB hl', fS_app, fS_app]
      cases z : fS g B with
      | some r => rfl
      | none =>
        obtain ⟨y, hy, h1, h2⟩ := ikR_mem q
        have hy := List.mem_reverse.mp hy
        show fS g l = fS g (x :: l)
        exact (fS_n (hg x y hx (hB y hy) h1 h2 (fS_allnone z y hy))).symm
    | false =>
      rw [wkK_f q, fS_ded hg l (B ++ [x]) (fun y hy => (List.mem_append.mp hy).elim (hB y) (fun w => by rw [List.mem_singleton.mp w]; exact hx)) hl', List.append_assoc]
      rfl
end IKS
def ge (V : xV) (o : Option xAR) (b r : Nat) (e : xE) : Option (List Nat) := ob (dfsP V o b r e.2.length e.1) (fun w => some (e.2 ++ w))
theorem ge_1 {V : xV} {o : Option xAR} {b : Nat} {e : xE} : ge V o b 1 e = fnd V o b e := by
  unfold ge fnd
  show (ob (fS _ (List.range 5)) (fun w => some (e.2 ++ w))) = _
  rw [fS_map]
  refine fS_congr (fun i _ => ?_)
  show (ob (ob (sw V o e.2.length e.1 i) (fun s' => _)) (fun w => some (e.2 ++ w))) = (ob (sw V o e.2.length e.1 i) (fun s' => _))
  cases q : sw V o e.2.length e.1 i with
  | none => rfl
  | some s' =>
    show ob (if seat V b s' = true then (if 0 = 0 then some [s'.2] else none) else if 0 = 0 then none else _) (fun w => some (e.2 ++ w)) = (if seat V b s' = true then some (e.2 ++ [s'.2]) else none)
    by_cases z : seat V b s' = true
    · rw [if_pos z, if_pos z, if_pos rfl]
    · rw [if_neg z, if_neg z, if_pos rfl]
theorem ge_s {V : xV} {o : Option xAR} {b r : Nat} {e : xE} : ge V o b (r + 2) e = fS (ge V o b (r + 1)) (kids V o b e) := by
  unfold kids
  rw [fS_fmap]
  unfold ge
  show (ob (fS _ (List.range 5)) (fun w => some (e.2 ++ w))) = _
  rw [fS_map]
  refine fS_congr (fun i _ => ?_)
  show (ob (ob (sw V o e.2.length e.1 i) (fun s' => _)) (fun w => some (e.2 ++ w))) = (ob (ob (sw V o e.2.length e.1 i) (fun s' => _)) (fun a => _))
  cases q : sw V o e.2.length e.1 i with
  | none => rfl
  | some s' =>
    show ob (if seat V b s' = true then (if r + 1 = 0 then some [s'.2] else none) else if r + 1 = 0 then none else if kok V b (e.2.length + 1) s' = true then (ob (dfsP V o b (r + 1) (e.2.length + 1) s') (fun w => some (s'.2 :: w))) else none) (fun w => some (e.2 ++ w)) = ob (if seat V b s' = true then none else if kok V b (e.2.length + 1) s' = true then some (s', e.2 ++ [s'.2]) else none) (fun a => ob (dfsP V o b (r + 1) a.2.length a.1) (fun w => some (a.2 ++ w)))
    by_cases z : seat V b s' = true
    · rw [if_pos z, if_pos z, if_neg (by omega)]
    · rw [if_neg z, if_neg z, if_neg (by omega)]
      by_cases z2 : kok V b (e.2.length + 1) s' = true
      · rw [if_pos z2, if_pos z2]
        show ob (ob (dfsP V o b (r + 1) (e.2.length + 1) s') (fun w => some (s'.2 :: w))) (fun w => some (e.2 ++ w)) = (ob (dfsP V o b (r + 1) (e.2 ++ [s'.2]).length s') (fun w => some ((e.2 ++ [s'.2]) ++ w)))
        rw [show (e.2 ++ [s'.2]).length = e.2.length + 1 from by simp]
        cases dfsP V o b (r + 1) (e.2.length + 1) s' with
        | none => rfl
        | some w => exact congrArg some (by simp)
      · rw [if_neg z2, if_neg z2]
theorem kids_mem {V : xV} {o : Option xAR} {b : Nat} {e x : xE} (h : x ∈ kids V o b e) : x.2.length = e.2.length + 1 ∧ seat V b x.1 = false ∧ kok V b x.2.length x.1 = true := by
  unfold kids at h
  obtain ⟨i, _, hi⟩ := List.mem_filterMap.mp h
  unfold kc at hi
  cases q : sw V o e.2.length e.1 i with
  | none => rw [q] at hi; cases hi
  | some s' =>
    rw [q] at hi
    have hi : (if seat V b s' = true then none else if kok V b (e.2.length + 1) s' = true then some (s', e.2 ++ [s'.2]) else none) = some x := hi
    by_cases z : seat V b s' = true
    · rw [if_pos z] at hi; cases hi
    · rw [if_neg z] at hi
      by_cases z2 : kok V b (e.2.length + 1) s' = true
      · rw [if_pos z2] at hi
        have := Option.some.inj hi
        subst this
        refine ⟨by simp, by cases y : seat V b s' with | false => rfl | true => exact absurd y z, ?_⟩
        show kok V b (e.2 ++ [s'.2]).length s' = true
        rw [show (e.2 ++ [s'.2]).length = e.2.length + 1 from by simp]
        exact z2
      · rw [if_neg z2] at hi; cases hi
def bfs (V : xV) (o : Option xAR) (b : Nat) : Nat → List xE → Option (List Nat)
  | 0, _ => none
  | _ + 1, [] => none
  | w + 1, e :: es => match fnd V o b e with
    | some r => some r
    | none => bfs V o b w (wkL (V 8 0) es (kids V o b e))
theorem bfs_lev {V : xV} {o : Option xAR} {b w d : Nat} : ∀ (A B : List xE), depthIs d A → bfs V o b (A.length + w) (A ++ B) = match fS (fnd V o b) A with | some r => some r | none => bfs V o b w (wkL (V 8 0) B (A.flatMap (kids V o b)))
  | [], B, _ => by
    show bfs V o b (0 + w) B = bfs V o b w B
    rw [Nat.zero_add]
  | e :: A, B, h => by
    have hA : depthIs d A := fun x hx => h x (List.mem_cons_of_mem _ hx)
    have hk : depthIs (d + 1) (kids V o b e) := fun x hx => by rw [(kids_mem hx).1, h e List.mem_cons_self]
    rw [show (e :: A).length + w = (A.length + w) + 1 from by simp; omega]
    show (match fnd V o b e with | some r => some r | none => bfs V o b (A.length + w) (wkL (V 8 0) (A ++ B) (kids V o b e))) = _
    cases q : fnd V o b e with
    | some r => rw [fS_s q]
    | none =>
      rw [fS_n q, wkL_lev hA hk]
      show bfs V o b (A.length + w) (A ++ wkL (V 8 0) B (kids V o b e)) = _
      rw [bfs_lev A (wkL (V 8 0) B (kids V o b e)) hA, List.flatMap_cons, wkL_app]
/-- levels -/
def resB (V : xV) (o : Option xAR) (b : Nat) : Nat → List xE → Option (List Nat)
  | 0, _ => none
  | r + 1, q => match fS (fnd V o b) q with
    | some x => some x
    | none => resB V o b r (wkL (V 8 0) [] (q.flatMap (kids V o b)))
/-- what is beyond the beasts stays as it was at first -/
def STE (V : xV) (e : xE) : Prop := SOK V e.1 ∧ ∀ i, V 8 0 ≤ i → e.1.1 i = V 2 i
theorem STE_eq {V : xV} {x y : xE} (hx : STE V x) (hy : STE V y) (h : pkN y.1.1 y.1.2 (V 8 0) = pkN x.1.1 x.1.2 (V 8 0)) : y.1 = x.1 := by
  have q := pkN_inj (V 8 0) (fun i hi => by have := hy.1.2 i hi; omega) (fun i hi => by have := hx.1.2 i hi; omega) h
  refine Prod.ext (funext fun i => ?_) q.1
  by_cases z : i < V 8 0
  · exact q.2 i z
  · rw [hy.2 i (by omega), hx.2 i (by omega)]
theorem kids_ste {V : xV} {o : Option xAR} {b : Nat} {e x : xE} (h : STE V e) (hx : x ∈ kids V o b e) : STE V x := by
  unfold kids at hx
  obtain ⟨i, _, hi⟩ := List.mem_filterMap.mp hx
  unfold kc at hi
  cases q : sw V o e.2.length e.1 i with
  | none => rw [q] at hi; cases hi
  | some s' =>
    rw [q] at hi
    have hi : (if seat V b s' = true then none else if kok V b (e.2.length + 1) s' = true then some (s', e.2 ++ [s'.2]) else none) = some x := hi
    have ok := sw_ok h.1 q
    have st : ∀ j, V 8 0 ≤ j → s'.1 j = V 2 j := by
      unfold sw at q
      cases e2 : wyc e.1.2 i with
      | none => rw [e2] at q; cases q
      | some c =>
        rw [e2] at q
        have e3 := sgo_is q
        subst e3
        exact fun j hj => (tenthF_keep (V 8 0) hj).trans (h.2 j hj)
    split at hi
    · cases hi
    · split at hi
      · have := Option.some.inj hi
        subst this
        exact ⟨ok, st⟩
      · cases hi
theorem ge_con {V : xV} {o : Option xAR} {b r : Nat} {x y : xE} (h1 : y.2.length = x.2.length) (h2 : y.1 = x.1) (h : ge V o b r y = none) : ge V o b r x = none := by
  unfold ge at h ⊢
  rw [h1, h2] at h
  cases q : dfsP V o b r x.2.length x.1 with
  | none => rfl
  | some w =>
    rw [q] at h
    cases h
theorem flat_ste {V : xV} {o : Option xAR} {b : Nat} {q : List xE} (h : ∀ e ∈ q, STE V e) : ∀ x ∈ q.flatMap (kids V o b), STE V x := fun x hx => by
  obtain ⟨e, he, hxe⟩ := List.mem_flatMap.mp hx
  exact kids_ste (h e he) hxe
theorem fS_kids {V : xV} {o : Option xAR} {b m : Nat} {q : List xE} (h : ∀ e ∈ q, STE V e) : fS (ge V o b m) (wkL (V 8 0) [] (q.flatMap (kids V o b))) = fS (ge V o b m) (q.flatMap (kids V o b)) := by
  rw [fS_ded (S := STE V) (fun x y hx hy h1 h2 h3 => ge_con h1 (STE_eq hx hy h2) h3) (q.flatMap (kids V o b)) [] (fun x hx => by cases hx) (flat_ste h), List.nil_append]
theorem kids_5 {V : xV} {o : Option xAR} {b : Nat} {e : xE} (h : 4 ≤ e.2.length) : kids V o b e = [] := by
  refine List.eq_nil_iff_forall_not_mem.mpr (fun x hx => ?_)
  obtain ⟨h1, h2, h3⟩ := kids_mem hx
  have h4 := of_decide_eq_true h3
  have h5 : rnd (x.1.1 b) (V 3 b) = 0 := by omega
  have h6 := rnd_0 h5
  have h7 := of_decide_eq_false h2
  exact h7 h6
theorem kids_len {V : xV} {o : Option xAR} {b : Nat} {e : xE} : (kids V o b e).length ≤ 5 := Nat.le_trans (List.length_filterMap_le _ _) (Nat.le_of_eq List.length_range)
theorem flat_len {V : xV} {o : Option xAR} {b : Nat} : ∀ (q : List xE), (q.flatMap (kids V o b)).length ≤ 5 * q.length
  | [] => Nat.le_refl 0
  | e :: q => by
    have h1 := flat_len (V := V) (o := o) (b := b) q
    have h2 := @kids_len V o b e
    rw [List.flatMap_cons, List.length_append, List.length_cons]
    omega
theorem flat_depth {V : xV} {o : Option xAR} {b d : Nat} {q : List xE} (h : depthIs d q) : depthIs (d + 1) (q.flatMap (kids V o b)) := fun x hx => by
  obtain ⟨e, he, hxe⟩ := List.mem_flatMap.mp hx
  rw [(kids_mem hxe).1, h e he]
theorem flat_4 {V : xV} {o : Option xAR} {b d : Nat} {q : List xE} (h : depthIs d q) (hd : 4 ≤ d) : q.flatMap (kids V o b) = [] := by
  refine List.eq_nil_iff_forall_not_mem.mpr (fun x hx => ?_)
  obtain ⟨e, he, hxe⟩ := List.mem_flatMap.mp hx
  rw [kids_5 (by rw [h e he]; exact hd)] at hxe
  cases hxe
/-- what all entries of the levels from a level of r more on come to -/
def roomOf : Nat → Nat → Nat
  | 0, _ => 0
  | r + 1, n => n + roomOf r (5 * n)
theorem roomOf_mono : ∀ (r m n : Nat), m ≤ n → roomOf r m ≤ roomOf r n
  | 0, _, _, _ => Nat.le_refl 0
  | r + 1, m, n, h => Nat.add_le_add h (roomOf_mono r (5 * m) (5 * n) (by omega))
theorem bfs_nil {V : xV} {o : Option xAR} {b : Nat} : ∀ w, bfs V o b w [] = none
  | 0 => rfl
  | _ + 1 => rfl
theorem bfs_res {V : xV} {o : Option xAR} {b : Nat} : ∀ (r d w : Nat) (q : List xE), d + r = 5 → depthIs d q → roomOf r q.length ≤ w → (r = 0 → q = []) → bfs V o b w q = resB V o b r q
  | 0, d, w, q, hd, hq, hw, h0 => by
    rw [h0 rfl, bfs_nil]
    rfl
  | r + 1, d, w, q, hd, hq, hw, _ => by
    have hw : q.length + roomOf r (5 * q.length) ≤ w := hw
    have e : w = q.length + (w - q.length) := by omega
    rw [e]
    have h1 := @bfs_lev V o b (w - q.length) d q [] hq
    rw [List.append_nil] at h1
    rw [h1]
    show _ = (match fS (fnd V o b) q with | some x => some x | none => resB V o b r (wkL (V 8 0) [] (q.flatMap (kids V o b))))
    cases fS (fnd V o b) q with
    | some x => rfl
    | none =>
      refine bfs_res r (d + 1) _ _ (by omega) (fun x hx => flat_depth hq x (wkL_0.2 x hx)) ?_ (fun z => by rw [flat_4 hq (by omega)]; rfl)
      have := roomOf_mono r _ _ (Nat.le_trans (@wkL_0 (V 8 0) (q.flatMap (kids V o b))).1 (@flat_len V o b q))
      omega
/-- the first n from n0 on for which g says something -/
def fN (g : Nat → Option (List Nat)) : Nat → Nat → Option (List Nat)
  | 0, _ => none
  | k + 1, n => match g n with
    | some w => some w
    | none => fN g k (n + 1)
theorem fN_congr {g h : Nat → Option (List Nat)} : ∀ (k n : Nat), (∀ m, n ≤ m → m < n + k → (∀ j, n ≤ j → j < m → h j = none) → g m = h m) → fN g k n = fN h k n
  | 0, _, _ => rfl
  | k + 1, n, e => by
    have e0 := e n (Nat.le_refl _) (by omega) (fun j h1 h2 => by omega)
    show (match g n with | some w => some w | none => fN g k (n + 1)) = (match h n with | some w => some w | none => fN h k (n + 1))
    rw [e0]
    cases q : h n with
    | some w => rfl
    | none =>
      exact fN_congr k (n + 1) (fun m h1 h2 h3 => e m (by omega) (by omega) (fun j j1 j2 => by
        by_cases z : j = n
        · rw [z]; exact q
        · exact h3 j (by omega) j2))
theorem fN_shift {g : Nat → Option (List Nat)} : ∀ (k n : Nat), fN (fun m => g (m + 1)) k n = fN g k (n + 1)
  | 0, _ => rfl
  | k + 1, n => by
    show (match g (n + 1) with | some w => some w | none => fN (fun m => g (m + 1)) k (n + 1)) = (match g (n + 1) with | some w => some w | none => fN g k (n + 1 + 1))
    rw [fN_shift k (n + 1)]
theorem resB_fN {V : xV} {o : Option xAR} {b : Nat} : ∀ (r : Nat) (q : List xE), (∀ e ∈ q, STE V e) → resB V o b r q = fN (fun n => fS (ge V o b n) q) r 1
  | 0, _, _ => rfl
  | r + 1, q, hq => by
    show (match fS (fnd V o b) q with | some x => some x | none => resB V o b r (wkL (V 8 0) [] (q.flatMap (kids V o b)))) = (match fS (ge V o b 1) q with | some w => some w | none => fN (fun n => fS (ge V o b n) q) r 2)
    rw [show fS (ge V o b 1) q = fS (fnd V o b) q from fS_congr (fun e _ => ge_1)]
    cases fS (fnd V o b) q with
    | some x => rfl
    | none =>
      show resB V o b r (wkL (V 8 0) [] (q.flatMap (kids V o b))) = fN (fun n => fS (ge V o b n) q) r 2
      rw [resB_fN r (wkL (V 8 0) [] (q.flatMap (kids V o b))) (fun x hx => flat_ste hq x (wkL_0.2 x hx)), ← fN_shift (g := fun n => fS (ge V o b n) q) r 1]
      refine fN_congr r 1 (fun m h1 _ _ => ?_)
      show fS (ge V o b m) (wkL (V 8 0) [] (q.flatMap (kids V o b))) = fS (ge V o b (m + 1)) q
      rw [fS_kids hq, fS_flat]
      obtain ⟨k, rfl⟩ : ∃ k, m = k + 1 := ⟨m - 1, by omega⟩
      exact fS_congr (fun e _ => ge_s.symm)
/-- the shortest walk -/
def shR (V : xV) (o : Option xAR) (b : Nat) : Option (List Nat) := fN (fun n => dfs V o b n 0 (V 2, V 8 1)) 6 0
/-- as the class finds it -/
def shC (V : xV) (o : Option xAR) (b : Nat) : Option (List Nat) := if seat V b (V 2, V 8 1) = true then some [] else if kok V b 0 (V 2, V 8 1) = true then bfs V o b 781 [((V 2, V 8 1), [])] else none
theorem shC_eq {V : xV} {o : Option xAR} {b : Nat} (hs : SOK V (V 2, V 8 1)) (hb : b < V 8 0) (h3 : V 3 b < 36) : shC V o b = shR V o b := by
  have e0 : shR V o b = (match (if V 2 b = V 3 b then some ([] : List Nat) else none) with | some w => some w | none => fN (fun n => dfs V o b n 0 (V 2, V 8 1)) 5 1) := rfl
  rw [e0]
  unfold shC
  by_cases q : V 2 b = V 3 b
  · rw [if_pos (seat_t q), if_pos q]
  · rw [if_neg (seat_f q), if_neg q]
    have d0 : dfs V o b 0 0 (V 2, V 8 1) = none := if_neg q
    by_cases z : rnd (V 2 b) (V 3 b) ≤ 5
    · rw [if_pos (kok_t (show rnd (V 2 b) (V 3 b) + 0 ≤ 5 from z)), bfs_res 5 0 781 [((V 2, V 8 1), [])] rfl (fun e he => by rw [List.mem_singleton.mp he]; rfl) (show roomOf 5 1 ≤ 781 by decide) (by omega), resB_fN 5 _ (fun e he => by rw [List.mem_singleton.mp he]; exact ⟨hs, fun _ _ => rfl⟩)]
      refine fN_congr 5 1 (fun m h1 h2 hl => ?_)
      show fS (ge V o b m) [((V 2, V 8 1), [])] = dfs V o b m 0 (V 2, V 8 1)
      obtain ⟨k, rfl⟩ : ∃ k, m = k + 1 := ⟨m - 1, by omega⟩
      have e1 : dfsP V o b (k + 1) 0 (V 2, V 8 1) = dfs V o b (k + 1) 0 (V 2, V 8 1) := dfsP_eq hb h3 k 0 _ hs (by omega) (fun j hj => by
        by_cases y : j = 0
        · rw [y]; exact d0
        · exact hl j (by omega) hj)
      have e2 : ge V o b (k + 1) ((V 2, V 8 1), []) = dfs V o b (k + 1) 0 (V 2, V 8 1) := by
        unfold ge
        show (ob (dfsP V o b (k + 1) 0 (V 2, V 8 1)) (fun w => some ([] ++ w))) = _
        rw [e1]
        cases dfs V o b (k + 1) 0 (V 2, V 8 1) with
        | none => rfl
        | some w => rfl
      rw [← e2]
      cases y : ge V o b (k + 1) ((V 2, V 8 1), []) with
      | some w => rw [fS_s y]
      | none => rw [fS_n y]; rfl
    · rw [if_neg (kok_f (show ¬ rnd (V 2 b) (V 3 b) + 0 ≤ 5 from z))]
      have hn : ∀ m, m ≤ 5 → dfs V o b m 0 (V 2, V 8 1) = none := fun m hm => dfs_far hb h3 m 0 _ hs (show m < rnd (V 2 b) (V 3 b) by omega)
      refine Eq.symm ((fN_congr (h := fun _ => none) 5 1 (fun m h1 h2 _ => hn m (by omega))).trans ?_)
      rfl
/-- a walk found has as many cells as tenths -/
theorem dfs_len {V : xV} {o : Option xAR} {b : Nat} : ∀ (r d : Nat) (s : xS) (w : List Nat), dfs V o b r d s = some w → w.length = r
  | 0, _, s, w, h => by
    have h : (if s.1 b = V 3 b then some [] else none) = some w := h
    split at h
    · have := Option.some.inj h
      rw [← this]
      rfl
    · cases h
  | r + 1, d, s, w, h => by
    have key : ∀ (l : List Nat), fS (fun c => ob (sgo V o d s c) (fun s' => ob (dfs V o b r (d + 1) s') (fun w => some (c :: w)))) l = some w → w.length = r + 1 := by
      intro l
      induction l with
      | nil => intro h; cases h
      | cons c l ih =>
        intro h
        cases e : (ob (sgo V o d s c) (fun s' => ob (dfs V o b r (d + 1) s') (fun w => some (c :: w)))) with
        | none => rw [fS_n (f := fun c => ob (sgo V o d s c) (fun s' => ob (dfs V o b r (d + 1) s') (fun w => some (c :: w)))) e] at h; exact ih h
        | some x =>
          rw [fS_s (f := fun c => ob (sgo V o d s c) (fun s' => ob (dfs V o b r (d + 1) s') (fun w => some (c :: w)))) e] at h
          have hx := Option.some.inj h
          subst hx
          cases e2 : sgo V o d s c with
          | none => rw [e2] at e; cases e
          | some s' =>
            rw [e2] at e
            have e : (ob (dfs V o b r (d + 1) s') (fun w => some (c :: w))) = some x := e
            cases e3 : dfs V o b r (d + 1) s' with
            | none => rw [e3] at e; cases e
            | some w' =>
              rw [e3] at e
              have := Option.some.inj e
              rw [← this, List.length_cons, dfs_len r (d + 1) s' w' e3]
    exact key _ h
theorem fN_len {g : Nat → Option (List Nat)} (hg : ∀ n w, g n = some w → w.length = n) : ∀ (k n : Nat) (w : List Nat), fN g k n = some w → n ≤ w.length ∧ w.length < n + k
  | 0, _, _, h => by cases h
  | k + 1, n, w, h => by
    have h : (match g n with | some w => some w | none => fN g k (n + 1)) = some w := h
    cases e : g n with
    | some x =>
      rw [e] at h
      have := Option.some.inj h
      rw [← this, hg n x e]
      omega
    | none =>
      rw [e] at h
      have := fN_len hg k (n + 1) w h
      omega
theorem shR_len {V : xV} {o : Option xAR} {b : Nat} {w : List Nat} (h : shR V o b = some w) : w.length ≤ 5 := by
  have := (fN_len (fun n w => dfs_len n 0 _ w) 6 0 w h).2
  omega
/-- the answer -/
def spShort (V : xV) (o : Option xAR) (x y : Int32) : Int32 := match idx (V 8 0) x with
  | none => -1
  | some b => if y < -1 ∨ 4 < y then -1 else match shR V o b with
    | none => -5
    | some w => if y = -1 then nI w.length else if y.toNatClampNeg < w.length then nI (w.getD y.toNatClampNeg 0) else -5
theorem spSh_x {V : xV} {o : Option xAR} {x y : Int32} (h : x < 0 ∨ nI (V 8 0) ≤ x) : spShort V o x y = -1 := by
  unfold spShort
  rw [idx_n h]
theorem spSh_y {V : xV} {o : Option xAR} {x y : Int32} (h : y < -1 ∨ 4 < y) : spShort V o x y = -1 := by
  unfold spShort
  cases idx (V 8 0) x with
  | none => rfl
  | some b => exact if_pos h
theorem spSh_b {V : xV} {o : Option xAR} {b : Nat} {y : Int32} (h6 : V 8 0 ≤ 6) (hb : b < V 8 0) (h : ¬ (y < -1 ∨ 4 < y)) : spShort V o (nI b) y = (match shR V o b with | none => -5 | some w => if y = -1 then nI w.length else if y.toNatClampNeg < w.length then nI (w.getD y.toNatClampNeg 0) else -5) := by
  unfold spShort
  rw [idx_s hb (by omega)]
  exact if_neg h
