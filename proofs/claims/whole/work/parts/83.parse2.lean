/-! ===== a RING as text: what it comes to ===== -/
abbrev b2n (b : Bool) : Nat := if b = true then 1 else 0
theorem b2n_lt (b : Bool) : b2n b < 2 := by cases b <;> decide
theorem bt_or1 (t : Nat) : 2 * t ||| 1 = 2 * t + 1 := (Nat.two_pow_add_eq_or_of_lt (i := 1) (b := 1) (by decide) t).symm
theorem bt_or (t : Nat) (x y : Bool) : (2 * t + b2n x) ||| b2n y = 2 * t + b2n (x || y) := by
  cases y
  · rw [show b2n false = 0 from rfl, Nat.or_zero, Bool.or_false]
  · rw [show b2n true = 1 from rfl, Bool.or_true]
    cases x
    · exact bt_or1 t
    · show (2 * t + 1) ||| 1 = 2 * t + 1
      rw [← bt_or1, Nat.or_assoc, Nat.or_self]
theorem bt_and1 (t : Nat) (x : Bool) : (2 * t + b2n x) &&& 1 = b2n x := by
  rw [Nat.and_one_is_mod]
  have := b2n_lt x
  omega
theorem bt_xor (t : Nat) (x : Bool) : (2 * t + b2n x) ^^^ 1 = 2 * t + b2n (!x) := by
  have h1 : ((2 * t + b2n x) ^^^ 1) / 2 = t := by
    have := b2n_lt x
    rw [Nat.xor_div_two, show (1 : Nat) / 2 = 0 from rfl, Nat.xor_zero]
    omega
  have h2 : ((2 * t + b2n x) ^^^ 1) % 2 = 1 ↔ ¬ ((2 * t + b2n x) % 2 = 1 ↔ 1 % 2 = 1) := Nat.xor_mod_two_eq_one
  cases x
  · have : ((2 * t + 0) ^^^ 1) % 2 = 1 := h2.mpr (fun q => by
      have := q.mpr rfl
      have : (2 * t + 0) % 2 = 1 := this
      omega)
    show (2 * t + 0) ^^^ 1 = 2 * t + 1
    have h1 : ((2 * t + 0) ^^^ 1) / 2 = t := h1
    omega
  · have : ¬ ((2 * t + 1) ^^^ 1) % 2 = 1 := fun q => (h2.mp q) ⟨fun _ => rfl, fun _ => by
      show (2 * t + 1) % 2 = 1
      omega⟩
    show (2 * t + 1) ^^^ 1 = 2 * t + 0
    have h1 : ((2 * t + 1) ^^^ 1) / 2 = t := h1
    omega
theorem bt_clr {n : Nat} (h : n < 2 ^ 63) : n &&& (2 ^ 64 - 2) = 2 * (n / 2) := by
  have h1 : (n &&& (2 ^ 64 - 2)) / 2 = n / 2 := by
    rw [Nat.and_div_two, show (2 ^ 64 - 2) / 2 = 2 ^ 63 - 1 from by decide, Nat.and_two_pow_sub_one_eq_mod]
    exact Nat.mod_eq_of_lt (by omega)
  have h2 : (n &&& (2 ^ 64 - 2)) % 2 = 1 ↔ n % 2 = 1 ∧ (2 ^ 64 - 2) % 2 = 1 := Nat.and_mod_two_eq_one
  have h3 : ¬ (n &&& (2 ^ 64 - 2)) % 2 = 1 := fun q => absurd (h2.mp q).2 (by decide)
  omega
theorem lN_xor1 {t : Nat} {x : Bool} (h : 2 * t + 1 < 2 ^ 63) : lN (2 * t + b2n x) ^^^ 1 = lN (2 * t + b2n (!x)) := by
  have h0 := b2n_lt x
  rw [← bt_xor]
  apply wb_inj
  show (lN (2 * t + b2n x)).toBitVec ^^^ (lN 1).toBitVec = _
  apply BitVec.eq_of_toNat_eq
  rw [BitVec.toNat_xor, wb_tn (by omega), wb_tn (by decide), wb_tn]
  rw [bt_xor]
  have := b2n_lt (!x)
  omega
theorem lN_lo {t : Nat} {x : Bool} (h : 2 * t + 1 < 2 ^ 63) : lN (2 * t + b2n x) &&& 1 = lN (b2n x) := by
  have h0 := b2n_lt x
  rw [show (1 : Int64) = lN 1 from rfl, wb_and (by omega) (by decide), bt_and1]
theorem lN_if {t : Nat} {x : Bool} (h : 2 * t + 1 < 2 ^ 63) : lg_cmp (lN (2 * t + b2n x) &&& 1) 0 = 0 ↔ x = false := by
  rw [lN_lo h, lcmp0 (by have := b2n_lt x; omega)]
  cases x <;> decide
theorem lN_half {t : Nat} {x : Bool} (h : 2 * t + 1 < 2 ^ 63) : xlushr (lN (2 * t + b2n x)) 1 = lN t := by
  have h0 := b2n_lt x
  have e : xlushr (lN (2 * t + b2n x)) 1 = lN ((2 * t + b2n x) / 2 ^ 1) := wb_shr (k := 1) (by omega) (by decide)
  rw [e, show (2 * t + b2n x) / 2 ^ 1 = t by omega]
theorem lN_clr {t : Nat} {x : Bool} (h : 2 * t + 1 < 2 ^ 63) : lN (2 * t + b2n x) &&& (-2) = lN (2 * t + b2n false) := by
  have h0 := b2n_lt x
  rw [show (-2 : Int64) = lN (2 ^ 64 - 2) from by decide +kernel, wb_and (by omega) (by decide), bt_clr (by omega)]
  rw [show 2 * ((2 * t + b2n x) / 2) = 2 * t + b2n false by show _ = 2 * t + 0; omega]
theorem lN_or1 {t : Nat} {x y : Bool} (h : 2 * t + 1 < 2 ^ 63) : lN (2 * t + b2n x) ||| lN (b2n y) = lN (2 * t + b2n (x || y)) := by
  have h0 := b2n_lt x
  have h1 := b2n_lt y
  rw [wb_or (by omega) (by omega), bt_or]
theorem lN_psh {t : Nat} {y : Bool} (h : 2 * t + 1 < 2 ^ 63) : xlshl (lN t) 1 ||| (if y = true then (1 : Int32) else 0).toInt64 = lN (2 * t + b2n y) := by
  have e : xlshl (lN t) 1 = lN (t * 2 ^ 1) := wb_shl t (k := 1) (by decide)
  have e2 : (if y = true then (1 : Int32) else 0).toInt64 = lN (b2n y) := by cases y <;> rfl
  rw [e, e2, show t * 2 ^ 1 = 2 * t + b2n false by show _ = 2 * t + 0; omega, lN_or1 h, Bool.false_or]
/-- one part, the class -/
def stL (f : Nat → Int32) (s : Int64 × Int32 × Int32) (x : Nat × Nat × Nat) : Int64 × Int32 × Int32 := stC f (fun _ => nI x.1) (fun _ => nI x.2.1) (fun _ => nI x.2.2) 0 s
def tsN : List (Nat × Nat × Nat) → Nat
  | [] => 0
  | x :: l => (if x.1 = 33 ∨ x.1 = 38 ∨ x.1 = 124 then 0 else 1) + tsN l
theorem tsN_app {l : List (Nat × Nat × Nat)} : ∀ {k : List (Nat × Nat × Nat)}, tsN (k ++ l) = tsN k + tsN l
  | [] => (Nat.zero_add _).symm
  | x :: k => by
    show (if x.1 = 33 ∨ x.1 = 38 ∨ x.1 = 124 then 0 else 1) + tsN (k ++ l) = (if x.1 = 33 ∨ x.1 = 38 ∨ x.1 = 124 then 0 else 1) + tsN k + tsN l
    rw [tsN_app, Nat.add_assoc]
def evL (a1 a2 a3 a4 a5 : Nat) : List Int32 → List Bool → Option (List Bool)
  | [], st => some st
  | t :: l, st => match stM a1 a2 a3 a4 a5 t st with
    | none => none
    | some st' => evL a1 a2 a3 a4 a5 l st'
theorem evL_app {a1 a2 a3 a4 a5 : Nat} {k : List Int32} : ∀ {l : List Int32} {st st' : List Bool}, evL a1 a2 a3 a4 a5 l st = some st' → evL a1 a2 a3 a4 a5 (l ++ k) st = evL a1 a2 a3 a4 a5 k st'
  | [], st, st', h => by
    have h : some st = some st' := h
    cases h
    rfl
  | t :: l, st, st', h => by
    have h : (match stM a1 a2 a3 a4 a5 t st with | none => none | some st1 => evL a1 a2 a3 a4 a5 l st1) = some st' := h
    show (match stM a1 a2 a3 a4 a5 t st with | none => none | some st1 => evL a1 a2 a3 a4 a5 (l ++ k) st1) = _
    cases e : stM a1 a2 a3 a4 a5 t st with
    | none =>
      rw [e] at h
      cases h
    | some st1 =>
      rw [e] at h
      exact evL_app h
def EVM (e : xCE) : Prop := ∀ (a1 a2 a3 a4 a5 : Nat) (st : List Bool), st.length + tsN e.1 ≤ 100 → evL a1 a2 a3 a4 a5 e.2.1 st = some (e.2.2 a1 a2 a3 a4 a5 :: st)
def EVC (e : xCE) : Prop := ∀ (f : Nat → Int32) (a1 a2 a3 a4 a5 : Nat), f 0 = nI a1 → f 1 = nI a2 → f 2 = nI a3 → f 3 = nI a4 → f 4 = nI a5 → a1 < 100 → a2 < 100 → a3 < 100 → a4 < 100 → a5 < 100 → ∀ (t : Nat) (y c : Int32), (t + 1) * 2 ^ tsN e.1 ≤ 2 ^ 62 → e.1.foldl (stL f) (lN t, y, c) = (lN (2 * t + b2n (e.2.2 a1 a2 a3 a4 a5)), y, c)
def BYT (e : xCE) : Prop := ∀ x ∈ e.1, x.1 < 128 ∧ x.2.1 < 128 ∧ x.2.2 < 100
/-- between two places -/
def GDE (p q : Nat) (e : xCE) : Prop := p + 3 * tsN e.1 ≤ q ∧ 1 ≤ tsN e.1 ∧ p + e.1.length ≤ q ∧ p + e.2.1.length ≤ q ∧ EVM e ∧ EVC e ∧ BYT e
theorem tsN_33 : tsN [(33, 0, 0)] = 0 := rfl
theorem pw_le {t k : Nat} (hk : 1 ≤ k) (h : (t + 1) * 2 ^ k ≤ 2 ^ 62) : 2 * t + 1 < 2 ^ 63 := by
  have h1 : 2 ^ 1 ≤ 2 ^ k := Nat.pow_le_pow_right (by decide) hk
  have h2 : (t + 1) * 2 ^ 1 ≤ (t + 1) * 2 ^ k := Nat.mul_le_mul_left _ h1
  omega
theorem pw_go {t a b x : Nat} (hx : x < 2) (ha : 1 ≤ a) (h : (t + 1) * 2 ^ (a + b) ≤ 2 ^ 62) : (t + 1) * 2 ^ a ≤ 2 ^ 62 ∧ (2 * t + x + 1) * 2 ^ b ≤ 2 ^ 62 := by
  constructor
  · exact Nat.le_trans (Nat.mul_le_mul_left _ (Nat.pow_le_pow_right (by decide) (by omega))) h
  · have h1 : (2 * t + x + 1) * 2 ^ b ≤ ((t + 1) * 2) * 2 ^ b := Nat.mul_le_mul_right _ (by omega)
    rw [Nat.mul_assoc, ← Nat.pow_succ'] at h1
    exact Nat.le_trans h1 (Nat.le_trans (Nat.mul_le_mul_left _ (Nat.pow_le_pow_right (by decide) (by omega))) h)
theorem EVM.n {e : xCE} (h : EVM e) (j : Nat) (ht : tsN (eN j e).1 = tsN e.1) : EVM (eN j e) := fun a1 a2 a3 a4 a5 st hs => by
  rw [ht] at hs
  show evL a1 a2 a3 a4 a5 (e.2.1 ++ List.replicate j (-33)) st = some ((if j % 2 = 1 then !(e.2.2 a1 a2 a3 a4 a5) else e.2.2 a1 a2 a3 a4 a5) :: st)
  rw [evL_app (h a1 a2 a3 a4 a5 st hs)]
  have g : ∀ (j : Nat) (v : Bool), evL a1 a2 a3 a4 a5 (List.replicate j (-33)) (v :: st) = some ((if j % 2 = 1 then !v else v) :: st) := fun j => by
    induction j with
    | zero => exact fun v => rfl
    | succ j ih =>
      intro v
      show evL a1 a2 a3 a4 a5 (List.replicate j (-33)) ((!v) :: st) = _
      rw [ih (!v)]
      by_cases z : j % 2 = 1
      · rw [if_pos z, if_neg (by omega), Bool.not_not]
      · rw [if_neg z, if_pos (by omega)]
  exact g j _
theorem EVC.n {e : xCE} (h : EVC e) (j : Nat) (h1 : 1 ≤ tsN e.1) (ht : tsN (eN j e).1 = tsN e.1) : EVC (eN j e) := fun f a1 a2 a3 a4 a5 f1 f2 f3 f4 f5 l1 l2 l3 l4 l5 t y c hp => by
  rw [ht] at hp
  have hh := h f a1 a2 a3 a4 a5 f1 f2 f3 f4 f5 l1 l2 l3 l4 l5 t y c hp
  show (e.1 ++ (if j % 2 = 1 then [(33, 0, 0)] else [])).foldl (stL f) (lN t, y, c) = (lN (2 * t + b2n (if j % 2 = 1 then !(e.2.2 a1 a2 a3 a4 a5) else e.2.2 a1 a2 a3 a4 a5)), y, c)
  rw [List.foldl_append, hh]
  by_cases z : j % 2 = 1
  · rw [if_pos z, if_pos z]
    show (lN (2 * t + b2n (e.2.2 a1 a2 a3 a4 a5)) ^^^ 1, y, c) = _
    rw [lN_xor1 (pw_le h1 hp)]
  · rw [if_neg z, if_neg z]
    rfl
theorem GDE.n {p p' q q' j : Nat} {e : xCE} (h : GDE p' q e) (hp : p + j ≤ p') (hq : q ≤ q') : GDE p q' (eN j e) := by
  obtain ⟨h1, h2, h3, h4, h5, h6, h7⟩ := h
  have ht : tsN (eN j e).1 = tsN e.1 := by
    show tsN (e.1 ++ (if j % 2 = 1 then [(33, 0, 0)] else [])) = _
    rw [tsN_app]
    by_cases z : j % 2 = 1
    · rw [if_pos z, tsN_33, Nat.add_zero]
    · rw [if_neg z]
      rfl
  have hl : (eN j e).1.length ≤ e.1.length + j := by
    show (e.1 ++ (if j % 2 = 1 then [(33, 0, 0)] else [])).length ≤ _
    rw [List.length_append]
    by_cases z : j % 2 = 1
    · rw [if_pos z]
      show e.1.length + 1 ≤ _
      omega
    · rw [if_neg z]
      show e.1.length + 0 ≤ _
      omega
  have hm : (eN j e).2.1.length = e.2.1.length + j := by
    show (e.2.1 ++ List.replicate j (-33)).length = _
    rw [List.length_append, List.length_replicate]
  refine ⟨by rw [ht]; omega, by rw [ht]; exact h2, by omega, by omega, h5.n j ht, h6.n j h2 ht, fun x hx => ?_⟩
  rcases List.mem_append.mp hx with z | z
  · exact h7 x z
  · by_cases y : j % 2 = 1
    · rw [if_pos y] at z
      rw [List.mem_singleton.mp z]
      decide
    · rw [if_neg y] at z
      cases z
theorem tsN_2 {a b : xCE} {c : Nat} (hc : c = 38 ∨ c = 124) : tsN (a.1 ++ b.1 ++ [(c, 0, 0)]) = tsN a.1 + tsN b.1 := by
  rw [tsN_app, tsN_app]
  show _ + (if c = 33 ∨ c = 38 ∨ c = 124 then 0 else 1) + 0 = _
  rw [if_pos (Or.inr hc)]
  rfl
theorem len2 {a b : xCE} {c : Nat} : (a.1 ++ b.1 ++ [(c, 0, 0)]).length = a.1.length + b.1.length + 1 := by rw [List.length_append, List.length_append]; rfl
theorem len2m {a b : xCE} {c : Int32} : (a.2.1 ++ b.2.1 ++ [c]).length = a.2.1.length + b.2.1.length + 1 := by rw [List.length_append, List.length_append]; rfl
theorem BYT.two {a b : xCE} (h : BYT a) (h' : BYT b) {c : Nat} (hc : c < 128) : ∀ x ∈ a.1 ++ b.1 ++ [(c, 0, 0)], x.1 < 128 ∧ x.2.1 < 128 ∧ x.2.2 < 100 := fun x hx => by
  rcases List.mem_append.mp hx with z | z
  · rcases List.mem_append.mp z with y | y
    · exact h x y
    · exact h' x y
  · rw [List.mem_singleton.mp z]
    exact ⟨hc, by show 0 < 128; decide, by show 0 < 100; decide⟩
theorem ev2M {a b : xCE} (ha : EVM a) (hb : EVM b) (h1 : 1 ≤ tsN a.1) {s : Int32} {a1 a2 a3 a4 a5 : Nat} {st : List Bool} (hs : st.length + (tsN a.1 + tsN b.1) ≤ 100) : evL a1 a2 a3 a4 a5 (a.2.1 ++ b.2.1 ++ [s]) st = evL a1 a2 a3 a4 a5 [s] (b.2.2 a1 a2 a3 a4 a5 :: a.2.2 a1 a2 a3 a4 a5 :: st) := by
  rw [List.append_assoc, evL_app (ha a1 a2 a3 a4 a5 st (by omega)), evL_app (hb a1 a2 a3 a4 a5 _ (by show st.length + 1 + _ ≤ 100; omega))]
theorem GDE.a {p p' q q' : Nat} {a b : xCE} (h : GDE p p' a) (h' : GDE (p' + 1) q b) (hq : q ≤ q') : GDE p q' (eA a b) ∧ GDE p q' (eO a b) := by
  obtain ⟨h1, h2, h3, h4, h5, h6, h7⟩ := h
  obtain ⟨g1, g2, g3, g4, g5, g6, g7⟩ := h'
  have t1 : tsN (eA a b).1 = tsN a.1 + tsN b.1 := tsN_2 (Or.inl rfl)
  have t2 : tsN (eO a b).1 = tsN a.1 + tsN b.1 := tsN_2 (Or.inr rfl)
  have l1 : (eA a b).1.length = a.1.length + b.1.length + 1 := len2
  have l2 : (eO a b).1.length = a.1.length + b.1.length + 1 := len2
  have m1 : (eA a b).2.1.length = a.2.1.length + b.2.1.length + 1 := len2m
  have m2 : (eO a b).2.1.length = a.2.1.length + b.2.1.length + 1 := len2m
  constructor
  · refine ⟨by omega, by omega, by omega, by omega, fun a1 a2 a3 a4 a5 st hs => ?_, fun f a1 a2 a3 a4 a5 f1 f2 f3 f4 f5 k1 k2 k3 k4 k5 t y c hp => ?_, h7.two g7 (by decide)⟩
    · rw [t1] at hs
      exact ev2M h5 g5 h2 hs
    · rw [t1] at hp
      have hp2 := pw_go (b2n_lt (a.2.2 a1 a2 a3 a4 a5)) h2 hp
      have e1 := h6 f a1 a2 a3 a4 a5 f1 f2 f3 f4 f5 k1 k2 k3 k4 k5 t y c hp2.1
      have e2 := g6 f a1 a2 a3 a4 a5 f1 f2 f3 f4 f5 k1 k2 k3 k4 k5 (2 * t + b2n (a.2.2 a1 a2 a3 a4 a5)) y c hp2.2
      have w1 := pw_le h2 hp2.1
      have w2 := pw_le g2 hp2.2
      show (a.1 ++ b.1 ++ [(38, 0, 0)]).foldl (stL f) (lN t, y, c) = (lN (2 * t + b2n (a.2.2 a1 a2 a3 a4 a5 && b.2.2 a1 a2 a3 a4 a5)), y, c)
      rw [List.foldl_append, List.foldl_append, e1, e2]
      generalize a.2.2 a1 a2 a3 a4 a5 = va at *
      generalize b.2.2 a1 a2 a3 a4 a5 = vb at *
      show (if lg_cmp (lN (2 * (2 * t + b2n va) + b2n vb) &&& 1) 0 = 0 then xlushr (lN (2 * (2 * t + b2n va) + b2n vb)) 1 &&& (-2) else xlushr (lN (2 * (2 * t + b2n va) + b2n vb)) 1, y, c) = _
      rw [lN_half w2]
      cases vb
      · rw [if_pos ((lN_if w2).mpr rfl), lN_clr w1, Bool.and_false]
      · rw [if_neg (fun q => absurd ((lN_if w2).mp q) (by decide)), Bool.and_true]
  · refine ⟨by omega, by omega, by omega, by omega, fun a1 a2 a3 a4 a5 st hs => ?_, fun f a1 a2 a3 a4 a5 f1 f2 f3 f4 f5 k1 k2 k3 k4 k5 t y c hp => ?_, h7.two g7 (by decide)⟩
    · rw [t2] at hs
      exact ev2M h5 g5 h2 hs
    · rw [t2] at hp
      have hp2 := pw_go (b2n_lt (a.2.2 a1 a2 a3 a4 a5)) h2 hp
      have e1 := h6 f a1 a2 a3 a4 a5 f1 f2 f3 f4 f5 k1 k2 k3 k4 k5 t y c hp2.1
      have e2 := g6 f a1 a2 a3 a4 a5 f1 f2 f3 f4 f5 k1 k2 k3 k4 k5 (2 * t + b2n (a.2.2 a1 a2 a3 a4 a5)) y c hp2.2
      have w1 := pw_le h2 hp2.1
      have w2 := pw_le g2 hp2.2
      show (a.1 ++ b.1 ++ [(124, 0, 0)]).foldl (stL f) (lN t, y, c) = (lN (2 * t + b2n (a.2.2 a1 a2 a3 a4 a5 || b.2.2 a1 a2 a3 a4 a5)), y, c)
      rw [List.foldl_append, List.foldl_append, e1, e2]
      generalize a.2.2 a1 a2 a3 a4 a5 = va at *
      generalize b.2.2 a1 a2 a3 a4 a5 = vb at *
      show (xlushr (lN (2 * (2 * t + b2n va) + b2n vb)) 1 ||| (lN (2 * (2 * t + b2n va) + b2n vb) &&& 1), y, c) = _
      rw [lN_half w2, lN_lo w2, lN_or1 w1]
theorem numF_p {nx : Nat → Nat} {p : Nat} {r : Nat × Nat} (h : numF nx p = some r) : p + 1 ≤ r.1 ∧ r.2 < 100 := by
  unfold numF at h
  by_cases c : isDg (nx p)
  · rw [if_pos c] at h
    by_cases d : isDg (nx (p + 1))
    · rw [if_pos d] at h
      cases h
      exact ⟨by show p + 1 ≤ p + 2; omega, by show 10 * (nx p - 48) + (nx (p + 1) - 48) < 100; omega⟩
    · rw [if_neg d] at h
      cases h
      exact ⟨Nat.le_refl _, by show nx p - 48 < 100; omega⟩
  · rw [if_neg c] at h
    cases h
theorem plL_lt {l : Nat} : plL l < 5 := by
  unfold plL
  repeat' split
  all_goals decide
theorem tst_testM {l s n : Nat} (hs : isSg s) (hn : n < 100) (a1 a2 a3 a4 a5 : Nat) : testM a1 a2 a3 a4 a5 (1000 * plL l + 100 * (s - 60) + n) = cmpS s (fct a1 a2 a3 a4 a5 (plL l)) n := by
  have hp := @plL_lt l
  unfold testM
  rw [show (1000 * plL l + 100 * (s - 60) + n) / 100 % 10 = s - 60 by omega, show (1000 * plL l + 100 * (s - 60) + n) / 1000 = plL l by omega, show (1000 * plL l + 100 * (s - 60) + n) % 100 = n by omega]
  unfold cmpS
  by_cases c : s = 60
  · rw [if_pos (by omega), if_pos c]
  · by_cases d : s = 61
    · rw [if_neg (by omega), if_pos (by omega), if_neg c, if_pos d]
    · rw [if_neg (by omega), if_neg (by omega), if_neg c, if_neg d]
theorem nl_iff {a b : Nat} (ha : a < 100) (hb : b < 100) : nI a < nI b ↔ a < b := by
  rw [Int32.lt_iff_toInt_lt, nI_toInt (by omega), nI_toInt (by omega)]
  omega
theorem nq_iff {a b : Nat} (ha : a < 100) (hb : b < 100) : nI a = nI b ↔ a = b := ⟨fun q => by
  have q1 := congrArg Int32.toInt q
  rw [nI_toInt (by omega), nI_toInt (by omega)] at q1
  omega, fun q => by rw [q]⟩
theorem dec_lt {a b : Nat} (ha : a < 100) (hb : b < 100) : decide (nI a < nI b) = decide (a < b) := decide_eq_decide.mpr (nl_iff ha hb)
theorem tst_passC {l s n : Nat} (hl : isLt l) (hs : isSg s) (hn : n < 100) {f : Nat → Int32} {a1 a2 a3 a4 a5 : Nat} (f1 : f 0 = nI a1) (f2 : f 1 = nI a2) (f3 : f 2 = nI a3) (f4 : f 3 = nI a4) (f5 : f 4 = nI a5) (k1 : a1 < 100) (k2 : a2 < 100) (k3 : a3 < 100) (k4 : a4 < 100) (k5 : a5 < 100) : passC f (nI l) (nI s) (nI n) = cmpS s (fct a1 a2 a3 a4 a5 (plL l)) n := by
  have hk : lkSel f (nI l) = nI (fct a1 a2 a3 a4 a5 (plL l)) ∧ fct a1 a2 a3 a4 a5 (plL l) < 100 := by
    rcases hl with rfl | rfl | rfl | rfl | rfl
    · exact ⟨f1, k1⟩
    · exact ⟨f2, k2⟩
    · exact ⟨f3, k3⟩
    · exact ⟨f4, k4⟩
    · exact ⟨f5, k5⟩
  have hs3 : s = 60 ∨ s = 61 ∨ s = 62 := by unfold isSg at hs; omega
  rcases hs3 with rfl | rfl | rfl
  · show decide (lkSel f (nI l) < nI n) = decide (fct a1 a2 a3 a4 a5 (plL l) < n)
    rw [hk.1, dec_lt hk.2 hn]
  · show decide (lkSel f (nI l) = nI n) = decide (fct a1 a2 a3 a4 a5 (plL l) = n)
    rw [hk.1]
    exact decide_eq_decide.mpr (nq_iff hk.2 hn)
  · show decide (nI n < lkSel f (nI l)) = decide (n < fct a1 a2 a3 a4 a5 (plL l))
    rw [hk.1, dec_lt hn hk.2]
theorem GDE.t {p l s n : Nat} (hl : isLt l) (hs : isSg s) (hn : n < 100) : GDE p (p + 3) (eT l s n) := by
  have hl2 : l < 128 ∧ ¬ (l = 33 ∨ l = 38 ∨ l = 124) := by rcases hl with rfl | rfl | rfl | rfl | rfl <;> decide
  have ht : tsN (eT l s n).1 = 1 := by
    show (if l = 33 ∨ l = 38 ∨ l = 124 then 0 else 1) + 0 = 1
    rw [if_neg hl2.2]
  have hp := @plL_lt l
  have hs' : 60 ≤ s ∧ s ≤ 62 := hs
  refine ⟨by rw [ht]; omega, by rw [ht]; exact Nat.le_refl _, by show p + 1 ≤ p + 3; omega, by show p + 1 ≤ p + 3; omega, fun a1 a2 a3 a4 a5 st h => ?_, fun f a1 a2 a3 a4 a5 f1 f2 f3 f4 f5 k1 k2 k3 k4 k5 t y c h => ?_, fun x hx => ?_⟩
  · rw [ht] at h
    have e : stM a1 a2 a3 a4 a5 (nI (1000 * plL l + 100 * (s - 60) + n)) st = some (cmpS s (fct a1 a2 a3 a4 a5 (plL l)) n :: st) := by
      unfold stM
      rw [if_neg (fun q => by
        have q1 := congrArg Int32.toInt q
        rw [nI_toInt (by omega)] at q1
        have q1 : ((1000 * plL l + 100 * (s - 60) + n : Nat) : Int) = -33 := q1
        omega), if_neg (fun q => by
        have q1 := Int32.lt_iff_toInt_lt.mp q
        rw [nI_toInt (by omega)] at q1
        have q1 : ((1000 * plL l + 100 * (s - 60) + n : Nat) : Int) < 0 := q1
        omega), nI_clamp (by omega), if_pos ⟨by omega, by omega⟩, tst_testM hs hn]
    show (match stM a1 a2 a3 a4 a5 (nI (1000 * plL l + 100 * (s - 60) + n)) st with | none => none | some st' => evL a1 a2 a3 a4 a5 [] st') = _
    rw [e]
    rfl
  · rw [ht] at h
    have w := pw_le (Nat.le_refl 1) h
    show stC f (fun _ => nI l) (fun _ => nI s) (fun _ => nI n) 0 (lN t, y, c) = (lN (2 * t + b2n (cmpS s (fct a1 a2 a3 a4 a5 (plL l)) n)), y, c)
    have e := tst_passC hl hs hn f1 f2 f3 f4 f5 k1 k2 k3 k4 k5
    have e2 : stC f (fun _ => nI l) (fun _ => nI s) (fun _ => nI n) 0 (lN t, y, c) = (xlshl (lN t) 1 ||| (if passC f (nI l) (nI s) (nI n) = true then (1 : Int32) else 0).toInt64, y, c) := by
      rcases hl with rfl | rfl | rfl | rfl | rfl <;> rfl
    rw [e2, e, lN_psh w]
  · rw [List.mem_singleton.mp hx]
    exact ⟨hl2.1, by show s < 128; omega, hn⟩
theorem tstF_gd {nx : Nat → Nat} {p q : Nat} {e : xCE} (h : tstF nx p = (q, some e)) : GDE p q e := by
  unfold tstF at h
  by_cases c : isLt (nx p)
  · rw [if_pos c] at h
    by_cases d : isSg (nx (p + 1))
    · rw [if_pos d] at h
      cases g : numF nx (p + 2) with
      | none =>
        rw [g] at h
        cases h
      | some r =>
        rw [g] at h
        cases h
        have g1 := numF_p g
        obtain ⟨z1, z2, z3, z4, z5, z6, z7⟩ := GDE.t (p := p) c d g1.2
        exact ⟨by omega, z2, by omega, by omega, z5, z6, z7⟩
    · rw [if_neg d] at h
      cases h
  · rw [if_neg c] at h
    cases h
def MOG : Nat → Nat → Nat → Option xCE → xCQ xCE → Prop
  | 2, _, p, a, r => ∀ e0 p0, a = some e0 → GDE p0 p e0 → ∀ e, r.2 = some e → GDE p0 r.1 e
  | 4, _, p, a, r => ∀ e0 p0, a = some e0 → GDE p0 p e0 → ∀ e, r.2 = some e → GDE p0 r.1 e
  | _, _, p, _, r => ∀ e, r.2 = some e → GDE p r.1 e
theorem pd_gd {nx : Nat → Nat} {k w p : Nat} {a : Option xCE} {r : xCQ xCE} (h : PD nx k w p a r) : MOG k w p a r := by
  refine h MOG ⟨?_, ?_, ?_, ?_, ?_, ?_, ?_, ?_, ?_, ?_, ?_, ?_, ?_, ?_, ?_⟩
  · intro w p j q e hb h4 ht e' he
    cases he
    exact (tstF_gd ht).n (Nat.le_refl _) (Nat.le_refl _)
  · intro w p j q hb h4 ht e' he
    cases he
  · intro w p j q hb h4 ho ih e' he
    cases he
  · intro w p j q e hb h4 ho ih hn e' he
    cases he
  · intro w p j q e hb h4 ho ih hn e' he
    cases he
    exact (ih e rfl).n (by omega) (by omega)
  · intro w p q ih e' he
    cases he
  · intro w p q e r ih1 ih2 e' he
    exact ih2 e p rfl (ih1 e rfl) e' he
  · intro w p e hn e0 p0 ea g e' he
    cases ea
    cases he
    exact g
  · intro w p q e hn ih e0 p0 ea g e' he
    cases he
  · intro w p q e e1 r hn ih1 ih2 e0 p0 ea g e' he
    cases ea
    exact ih2 _ p0 rfl (GDE.a g (ih1 e1 rfl) (Nat.le_refl _)).1 e' he
  · intro w p q ih e' he
    cases he
  · intro w p q e r ih1 ih2 e' he
    exact ih2 e p rfl (ih1 e rfl) e' he
  · intro w p e hn hm e0 p0 ea g e' he
    cases ea
    cases he
    exact g
  · intro w p q e hn ih e0 p0 ea g e' he
    cases he
  · intro w p q e e1 r hn ih1 ih2 e0 p0 ea g e' he
    cases ea
    exact ih2 _ p0 rfl (GDE.a g (ih1 e1 rfl) (Nat.le_refl _)).2 e' he

