/-! ===== seats: the class ===== -/
/-- rows of seats -/
def vl (t : Nat → Nat) : Nat → Nat
  | 0 => 0
  | k + 1 => vl t k * 64 + t k
def csm (V : xV) (t : Nat → Nat) : Nat → Nat
  | 0 => 0
  | k + 1 => csm V t k + rnd (V 2 k) (t k)
/-- a row of k beasts as it may be -/
def PVL (V : xV) (t : Nat → Nat) (k : Nat) : Prop := (∀ b, b < k → ∃ i, i < V 8 0 ∧ V 3 i = t b) ∧ (∀ a b, a < b → b < k → ¬ t a = t b) ∧ ∀ a b, a < b → b < k → bget (V 5 b) a = 1 → ¬ rnd (t a) (t b) = 1
theorem vl_congr {t x : Nat → Nat} : ∀ k, (∀ j, j < k → t j = x j) → vl t k = vl x k
  | 0, _ => rfl
  | k + 1, h => by
    show vl t k * 64 + t k = vl x k * 64 + x k
    rw [vl_congr k (fun j hj => h j (by omega)), h k (by omega)]
theorem vl_inj {t x : Nat → Nat} : ∀ k, (∀ j, j < k → t j < 64 ∧ x j < 64) → vl t k = vl x k → ∀ j, j < k → t j = x j
  | 0, _, _, j, hj => absurd hj (by omega)
  | k + 1, h, e, j, hj => by
    have e : vl t k * 64 + t k = vl x k * 64 + x k := e
    have h0 := h k (by omega)
    have e1 : vl t k = vl x k := by omega
    have e2 : t k = x k := by omega
    by_cases q : j = k
    · rw [q]; exact e2
    · exact vl_inj k (fun j hj => h j (by omega)) e1 j (by omega)
theorem csm_congr {V : xV} {t x : Nat → Nat} : ∀ k, (∀ j, j < k → t j = x j) → csm V t k = csm V x k
  | 0, _ => rfl
  | k + 1, h => by
    show csm V t k + rnd (V 2 k) (t k) = csm V x k + rnd (V 2 k) (x k)
    rw [csm_congr k (fun j hj => h j (by omega)), h k (by omega)]
theorem csm_le {V : xV} {t : Nat → Nat} : ∀ k, (∀ j, j < k → V 2 j < 36 ∧ t j < 36) → csm V t k ≤ 12 * k
  | 0, _ => Nat.le_refl 0
  | k + 1, h => by
    have h1 := csm_le (V := V) (t := t) k (fun j hj => h j (by omega))
    have h2 := rnd_lt (h k (by omega)).1 (h k (by omega)).2
    show csm V t k + rnd (V 2 k) (t k) ≤ _
    omega
abbrev xB : Type := Option (Nat × (Nat → Nat))
/-- the best of the rows that S holds -/
def BST (V : xV) (S : (Nat → Nat) → Prop) (acc : xB) : Prop := match acc with
  | none => ∀ t, PVL V t (V 8 0) → ¬ S t
  | some r => PVL V r.2 (V 8 0) ∧ S r.2 ∧ csm V r.2 (V 8 0) = r.1 ∧ ∀ t, PVL V t (V 8 0) → S t → r.1 < csm V t (V 8 0) ∨ (r.1 = csm V t (V 8 0) ∧ vl r.2 (V 8 0) ≤ vl t (V 8 0))
theorem BST.congr {V : xV} {S S' : (Nat → Nat) → Prop} {acc : xB} (h : BST V S acc) (e : ∀ t, PVL V t (V 8 0) → (S t ↔ S' t)) : BST V S' acc := by
  cases acc with
  | none => exact fun t ht hs => h t ht ((e t ht).mpr hs)
  | some r =>
    obtain ⟨h1, h2, h3, h4⟩ := h
    exact ⟨h1, (e _ h1).mp h2, h3, fun t ht hs => h4 t ht ((e t ht).mpr hs)⟩
/-- one row more -/
theorem BST.put {V : xV} {S S' : (Nat → Nat) → Prop} {acc : xB} {c : Nat → Nat} {s : Nat} (h : BST V S acc) (hc : PVL V c (V 8 0)) (hs : csm V c (V 8 0) = s) (hS : S' c) (e : ∀ t, PVL V t (V 8 0) → (S' t ↔ (S t ∨ ∀ j, j < V 8 0 → t j = c j))) (hb : ∀ r, acc = some r → s < r.1 ∨ (s = r.1 ∧ vl c (V 8 0) ≤ vl r.2 (V 8 0))) : BST V S' (some (s, c)) := by
  refine ⟨hc, hS, hs, fun t ht hst => ?_⟩
  rcases (e t ht).mp hst with q | q
  · cases acc with
    | none => exact absurd q (h t ht)
    | some r =>
      obtain ⟨h1, h2, h3, h4⟩ := h
      show s < csm V t (V 8 0) ∨ (s = csm V t (V 8 0) ∧ vl c (V 8 0) ≤ vl t (V 8 0))
      rcases h4 t ht q with z | z <;> rcases hb r rfl with y | y <;> omega
  · show s < csm V t (V 8 0) ∨ (s = csm V t (V 8 0) ∧ vl c (V 8 0) ≤ vl t (V 8 0))
    rw [csm_congr _ q, vl_congr _ q, hs]
    exact Or.inr ⟨rfl, Nat.le_refl _⟩
theorem BST.skip {V : xV} {S S' : (Nat → Nat) → Prop} {r : Nat × (Nat → Nat)} {c : Nat → Nat} (h : BST V S (some r)) (e : ∀ t, PVL V t (V 8 0) → (S' t ↔ (S t ∨ ∀ j, j < V 8 0 → t j = c j))) (hb : r.1 < csm V c (V 8 0) ∨ (r.1 = csm V c (V 8 0) ∧ vl r.2 (V 8 0) ≤ vl c (V 8 0))) : BST V S' (some r) := by
  obtain ⟨h1, h2, h3, h4⟩ := h
  refine ⟨h1, (e _ h1).mpr (Or.inl h2), h3, fun t ht hst => ?_⟩
  rcases (e t ht).mp hst with q | q
  · exact h4 t ht q
  · rw [csm_congr _ q, vl_congr _ q]
    exact hb
def allS : (Nat → Nat) → Prop := fun _ => True
theorem PVL.lt {V : xV} {t : Nat → Nat} {B k : Nat} (hv : VOK V B) (h : PVL V t k) : ∀ j, j < k → t j < 36 := fun j hj => by
  obtain ⟨v6, v12, v10, vb, _⟩ := hv
  obtain ⟨i, hi, e⟩ := h.1 j hj
  rw [← e]
  exact (vb i hi).2.2.2.1
/-- the best row of all, if there is one -/
noncomputable def seR (V : xV) : xB := @dite xB (∃ acc, BST V allS acc) (Classical.propDecidable _) (fun h => Classical.choose h) (fun _ => none)
def ansS (acc : xB) (x : Int32) : Int32 := match acc with
  | none => -5
  | some r => if x = -1 then nI r.1 else nI (r.2 x.toNatClampNeg)
theorem BST.same {V : xV} {B : Nat} (hv : VOK V B) {acc acc' : xB} (h : BST V allS acc) (h' : BST V allS acc') {x : Int32} (hx : x = -1 ∨ ∃ k, k < V 8 0 ∧ x = nI k) : ansS acc x = ansS acc' x := by
  have v6 := hv.1
  cases acc with
  | none =>
    cases acc' with
    | none => rfl
    | some r => exact absurd trivial (h r.2 h'.1)
  | some r =>
    cases acc' with
    | none => exact absurd trivial (h' r.2 h.1)
    | some q =>
      obtain ⟨h1, h2, h3, h4⟩ := h
      obtain ⟨g1, g2, g3, g4⟩ := h'
      have a1 := h4 q.2 g1 trivial
      have a2 := g4 r.2 h1 trivial
      rw [g3] at a1
      rw [h3] at a2
      have e1 : r.1 = q.1 := by omega
      have e2 : vl r.2 (V 8 0) = vl q.2 (V 8 0) := by omega
      have e3 := vl_inj (V 8 0) (fun j hj => ⟨by have := PVL.lt hv h1 j hj; omega, by have := PVL.lt hv g1 j hj; omega⟩) e2
      show (if x = -1 then nI r.1 else nI (r.2 x.toNatClampNeg)) = (if x = -1 then nI q.1 else nI (q.2 x.toNatClampNeg))
      rcases hx with z | ⟨k, hk, z⟩
      · rw [if_pos z, if_pos z, e1]
      · subst z
        rw [if_neg (nI_nem (by omega)), if_neg (nI_nem (by omega)), nI_clamp (by omega), e3 k hk]
noncomputable def spSeats (V : xV) (x : Int32) : Int32 := if x = -1 then ansS (seR V) x else match idx (V 8 0) x with
  | none => -1001
  | some b => ansS (seR V) x
theorem spSe_n {V : xV} {x : Int32} (h1 : ¬ x = -1) (h : x < 0 ∨ nI (V 8 0) ≤ x) : spSeats V x = -1001 := by
  unfold spSeats
  rw [if_neg h1, idx_n h]
theorem spSe_s {V : xV} {B : Nat} (hv : VOK V B) {acc : xB} (h : BST V allS acc) {x : Int32} (hx : x = -1 ∨ ∃ k, k < V 8 0 ∧ x = nI k) : spSeats V x = ansS acc x := by
  have v6 := hv.1
  have e1 : BST V allS (seR V) := by
    have hex : ∃ acc, BST V allS acc := ⟨acc, h⟩
    have e : seR V = Classical.choose hex := dif_pos hex
    rw [e]
    exact Classical.choose_spec hex
  rw [BST.same hv h e1 hx]
  unfold spSeats
  rcases hx with z | ⟨k, hk, z⟩
  · exact if_pos z
  · subst z
    rw [if_neg (nI_nem (by omega)), idx_s hk (by omega)]
/-- the class's state: sum and best; the row under way -/
def SEA (J : xI) (se nb : Nat) (acc : xB) : Prop := match acc with
  | none => J se 3 = -5
  | some r => J se 3 = nI r.1 ∧ bRow J (se + 5) nb r.2
def seP (se : Nat) (I J : xI) : Prop := ∀ a, (a < se ∨ se + 7 ≤ a) → J a = I a
theorem seP.tr {se : Nat} {I J J' : xI} (h : seP se I J) (h' : seP se J J') : seP se I J' := fun a p => (h' a p).trans (h a p)
/-- the stools as a rising row -/
def LSO (V : xV) (l : Nat → Nat) (m : Nat) : Prop := (∀ k, k < m → ∃ i, i < V 8 0 ∧ V 3 i = l k) ∧ (∀ i, i < V 8 0 → ∃ k, k < m ∧ l k = V 3 i) ∧ ∀ j k, j < k → k < m → l j < l k
def bnd (l : Nat → Nat) (m k : Nat) : Nat := if k < m then l k else 64
/-- what has been gone through when seat b is at stool k -/
def SPr (ch : Nat → Nat) (b B : Nat) : (Nat → Nat) → Prop := fun t => vl t (b + 1) < vl ch b * 64 + B
theorem SPr_0 {V : xV} {B b m : Nat} {ch l : Nat → Nat} (hv : VOK V B) (hl : LSO V l m) (hb : b < V 8 0) {t : Nat → Nat} (ht : PVL V t (V 8 0)) : (vl t b < vl ch b ↔ SPr ch b (bnd l m 0) t) := by
  obtain ⟨i, hi, e⟩ := ht.1 b hb
  obtain ⟨k, hk, e2⟩ := hl.2.1 i hi
  have lt := PVL.lt hv ht b hb
  have l0 : l 0 ≤ t b := by
    rw [← e, ← e2]
    rcases Nat.eq_zero_or_pos k with q | q
    · rw [q]
      exact Nat.le_refl _
    · exact Nat.le_of_lt (hl.2.2 0 k q hk)
  have e3 : bnd l m 0 = l 0 := if_pos (by omega)
  rw [e3]
  show _ ↔ vl t b * 64 + t b < vl ch b * 64 + l 0
  constructor
  · intro h; omega
  · intro h; omega
theorem SPr_m {V : xV} {B b m : Nat} {ch l : Nat → Nat} (hv : VOK V B) (hb : b < V 8 0) {t : Nat → Nat} (ht : PVL V t (V 8 0)) : (SPr ch b (bnd l m m) t ↔ vl t b ≤ vl ch b) := by
  have lt := PVL.lt hv ht b hb
  have e3 : bnd l m m = 64 := if_neg (by omega)
  rw [e3]
  show vl t b * 64 + t b < vl ch b * 64 + 64 ↔ _
  constructor
  · intro h; omega
  · intro h; omega
/-- seat b at stool k: the rows with that beginning are those that are new -/
theorem SPr_k {V : xV} {B b m k : Nat} {ch l : Nat → Nat} (hv : VOK V B) (hl : LSO V l m) (hk : k < m) (hb : b < V 8 0) {t : Nat → Nat} (ht : PVL V t (V 8 0)) : (SPr ch b (bnd l m (k + 1)) t ↔ (SPr ch b (bnd l m k) t ∨ (vl t b = vl ch b ∧ t b = l k))) := by
  obtain ⟨i, hi, e⟩ := ht.1 b hb
  obtain ⟨j, hj, e2⟩ := hl.2.1 i hi
  have lt := PVL.lt hv ht b hb
  obtain ⟨i2, hi2, e4⟩ := hl.1 k hk
  have lk : l k < 36 := by
    rw [← e4]
    obtain ⟨v6, v12, v10, vb, _⟩ := hv
    exact (vb i2 hi2).2.2.2.1
  have e3 : bnd l m k = l k := if_pos hk
  have e5 : t b = l j := e.symm.trans e2.symm
  have e6 : t b < bnd l m (k + 1) ↔ t b ≤ l k := by
    unfold bnd
    by_cases q : k + 1 < m
    · rw [if_pos q, e5]
      constructor
      · intro h
        rcases Nat.lt_or_ge k j with z | z
        · rcases Nat.lt_or_ge (k + 1) j with y | y
          · have := hl.2.2 (k + 1) j y hj
            omega
          · have : j = k + 1 := by omega
            rw [this] at h
            omega
        · rcases Nat.lt_or_ge j k with y | y
          · exact Nat.le_of_lt (hl.2.2 j k y hk)
          · have : j = k := by omega
            rw [this]
            exact Nat.le_refl _
      · intro h
        have := hl.2.2 k (k + 1) (by omega) q
        omega
    · rw [if_neg q]
      constructor
      · intro _
        rw [e5]
        rcases Nat.lt_or_ge j k with y | y
        · exact Nat.le_of_lt (hl.2.2 j k y hk)
        · have : j = k := by omega
          rw [this]
          exact Nat.le_refl _
      · intro _; omega
  have bk : bnd l m (k + 1) ≤ 64 := by
    unfold bnd
    split
    · rename_i q
      obtain ⟨i3, hi3, e7⟩ := hl.1 (k + 1) q
      rw [← e7]
      obtain ⟨v6, v12, v10, vb, _⟩ := hv
      have := (vb i3 hi3).2.2.2.1
      omega
    · omega
  rw [e3]
  show vl t b * 64 + t b < vl ch b * 64 + bnd l m (k + 1) ↔ (vl t b * 64 + t b < vl ch b * 64 + l k ∨ (vl t b = vl ch b ∧ t b = l k))
  constructor
  · intro h
    rcases Nat.lt_trichotomy (vl t b) (vl ch b) with z | z | z
    · exact Or.inl (by omega)
    · have := e6.mp (by omega)
      rcases Nat.lt_or_ge (t b) (l k) with y | y
      · exact Or.inl (by omega)
      · exact Or.inr ⟨z, by omega⟩
    · omega
  · intro h
    rcases h with h | ⟨h1, h2⟩
    · rcases Nat.lt_trichotomy (vl t b) (vl ch b) with z | z | z
      · have : 0 < bnd l m (k + 1) := by
          unfold bnd
          split
          · rename_i q
            have := hl.2.2 k (k + 1) (by omega) q
            omega
          · omega
        omega
      · have := e6.mpr (by omega)
        omega
      · omega
    · have := e6.mpr (by omega)
      omega
def chP (ch : Nat → Nat) (b c : Nat) : Nat → Nat := fun j => if j = b then c else ch j
theorem chP_lo {ch : Nat → Nat} {b c j : Nat} (h : j < b) : chP ch b c j = ch j := if_neg (by omega)
theorem chP_b {ch : Nat → Nat} {b c : Nat} : chP ch b c b = c := if_pos rfl
theorem vl_chP {ch : Nat → Nat} {b c : Nat} : vl (chP ch b c) (b + 1) = vl ch b * 64 + c := by
  show vl (chP ch b c) b * 64 + chP ch b c b = _
  rw [chP_b, vl_congr b (fun j hj => chP_lo hj)]
theorem csm_chP {V : xV} {ch : Nat → Nat} {b c : Nat} : csm V (chP ch b c) (b + 1) = csm V ch b + rnd (V 2 b) c := by
  show csm V (chP ch b c) b + rnd (V 2 b) (chP ch b c b) = _
  rw [chP_b, csm_congr b (fun j hj => chP_lo hj)]
theorem SPr_in {ch : Nat → Nat} {b B c : Nat} {t : Nat → Nat} (h : B = c) : (SPr ch b B t ↔ vl t (b + 1) < vl (chP ch b c) (b + 1)) := by
  rw [vl_chP, h]
  exact Iff.rfl
theorem SPr_out {V : xV} {B b m k : Nat} {ch l : Nat → Nat} (hv : VOK V B) (hl : LSO V l m) (hk : k < m) (hb : b < V 8 0) {t : Nat → Nat} (ht : PVL V t (V 8 0)) : (vl t (b + 1) ≤ vl (chP ch b (l k)) (b + 1) ↔ SPr ch b (bnd l m (k + 1)) t) := by
  rw [SPr_k hv hl hk hb ht, vl_chP, show bnd l m k = l k from if_pos hk]
  have lt := PVL.lt hv ht b hb
  obtain ⟨i2, hi2, e4⟩ := hl.1 k hk
  have lk : l k < 36 := by
    rw [← e4]
    obtain ⟨v6, v12, v10, vb, _⟩ := hv
    exact (vb i2 hi2).2.2.2.1
  show vl t b * 64 + t b ≤ vl ch b * 64 + l k ↔ (vl t b * 64 + t b < vl ch b * 64 + l k ∨ (vl t b = vl ch b ∧ t b = l k))
  constructor
  · intro h
    rcases Nat.lt_or_ge (vl t b * 64 + t b) (vl ch b * 64 + l k) with z | z
    · exact Or.inl z
    · exact Or.inr (by constructor <;> omega)
  · intro h
    rcases h with h | ⟨h1, h2⟩ <;> omega
/-- bits of the stools in use -/
def USD (l ch : Nat → Nat) (m b u : Nat) : Prop := u < 64 ∧ ∀ k, k < m → (bget u k = 1 ↔ ∃ j, j < b ∧ ch j = l k)
theorem bset_64 : ∀ w, w < 64 → ∀ k, k < 6 → bset w k true < 64 := by decide +kernel
theorem USD.put {l ch : Nat → Nat} {m b u k : Nat} (h : USD l ch m b u) (hm : m ≤ 6) (hk : k < m) (hi : ∀ j, j < m → l j = l k → j = k) : USD l (chP ch b (l k)) m (b + 1) (bset u k true) := by
  refine ⟨bset_64 u h.1 k (by omega), fun j hj => ?_⟩
  rw [bset_gz true h.1 (by omega) (by omega)]
  by_cases e : j = k
  · rw [if_pos e]
    exact ⟨fun _ => ⟨b, by omega, by rw [chP_b, e]⟩, fun _ => rfl⟩
  · rw [if_neg e, h.2 j hj]
    constructor
    · rintro ⟨i, h1, h2⟩
      exact ⟨i, by omega, by rw [chP_lo h1]; exact h2⟩
    · rintro ⟨i, h1, h2⟩
      rcases Nat.lt_succ_iff_lt_or_eq.mp h1 with z | z
      · exact ⟨i, z, by rw [chP_lo z] at h2; exact h2⟩
      · rw [z, chP_b] at h2
        exact absurd (hi j hj h2.symm) e

