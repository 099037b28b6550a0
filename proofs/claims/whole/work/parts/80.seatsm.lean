/-! ===== seats: the reference ===== -/
def dg (nb code b : Nat) : Nat := code / nb ^ (nb - 1 - b) % nb
theorem dg_lt {nb code b : Nat} (h : 0 < nb) : dg nb code b < nb := Nat.mod_lt _ h
def rwS (V : xV) (code : Nat) : Nat → Nat := fun b => V 3 (dg (V 8 0) code b)
def uF (nb code : Nat) : Nat → Nat
  | 0 => 0
  | i + 1 => bset (uF nb code i) (dg nb code (nb - 1 - i)) true
def sF (V : xV) (code : Nat) : Nat → Nat
  | 0 => 0
  | i + 1 => sF V code i + rnd (V 2 (V 8 0 - 1 - i)) (rwS V code (V 8 0 - 1 - i))
theorem sF_csm {V : xV} {code : Nat} : ∀ i, i ≤ V 8 0 → sF V code i + csm V (rwS V code) (V 8 0 - i) = csm V (rwS V code) (V 8 0)
  | 0, _ => Nat.zero_add _
  | i + 1, h => by
    have ih := sF_csm (V := V) (code := code) i (by omega)
    rw [show V 8 0 - i = (V 8 0 - 1 - i) + 1 by omega] at ih
    have ih : sF V code i + (csm V (rwS V code) (V 8 0 - 1 - i) + rnd (V 2 (V 8 0 - 1 - i)) (rwS V code (V 8 0 - 1 - i))) = csm V (rwS V code) (V 8 0) := ih
    show sF V code i + rnd (V 2 (V 8 0 - 1 - i)) (rwS V code (V 8 0 - 1 - i)) + csm V (rwS V code) (V 8 0 - (i + 1)) = _
    rw [show V 8 0 - (i + 1) = V 8 0 - 1 - i by omega]
    omega
theorem uF_lt {nb code : Nat} (h6 : nb ≤ 6) (h0 : 0 < nb) : ∀ i, uF nb code i < 64
  | 0 => (show 0 < 64 by decide)
  | i + 1 => bset_64 _ (uF_lt h6 h0 i) _ (Nat.lt_of_lt_of_le (dg_lt h0) h6)
theorem uF_bit {nb code : Nat} (h6 : nb ≤ 6) (h0 : 0 < nb) {k : Nat} (hk : k < nb) : ∀ i, i ≤ nb → (bget (uF nb code i) k = 1 ↔ ∃ b, nb - i ≤ b ∧ b < nb ∧ dg nb code b = k)
  | 0, _ => ⟨fun q => absurd q (by show ¬ bget 0 k = 1; rw [bget_0 k (by omega)]; decide), fun ⟨b, h1, h2, _⟩ => by omega⟩
  | i + 1, hi => by
    show bget (bset (uF nb code i) (dg nb code (nb - 1 - i)) true) k = 1 ↔ _
    rw [bset_gz true (uF_lt h6 h0 i) (Nat.lt_of_lt_of_le (dg_lt h0) h6) (by omega)]
    by_cases e : k = dg nb code (nb - 1 - i)
    · rw [if_pos e]
      exact ⟨fun _ => ⟨nb - 1 - i, by omega, by omega, e.symm⟩, fun _ => rfl⟩
    · rw [if_neg e, uF_bit h6 h0 hk i (by omega)]
      constructor
      · rintro ⟨b, h1, h2, h3⟩
        exact ⟨b, by omega, h2, h3⟩
      · rintro ⟨b, h1, h2, h3⟩
        by_cases z : b = nb - 1 - i
        · rw [z] at h3
          exact absurd h3.symm e
        · exact ⟨b, by omega, h2, h3⟩
theorem full_bits : ∀ nb, nb < 7 → ∀ u, u < 64 → (u = 2 ^ nb - 1 → (List.range nb).all (fun k => bget u k == 1) = true) := by decide +kernel
theorem bits_full : ∀ nb, nb < 7 → ∀ u, u < 64 → (u < 2 ^ nb ∧ (List.range nb).all (fun k => bget u k == 1) = true → u = 2 ^ nb - 1) := by decide +kernel
theorem uF_pw {nb code : Nat} (h6 : nb ≤ 6) (h0 : 0 < nb) : ∀ i, uF nb code i < 2 ^ nb
  | 0 => Nat.pow_pos (by decide)
  | i + 1 => bset_z true h6 (uF_pw h6 h0 i) (dg_lt h0)
theorem uF_on {nb code : Nat} (h6 : nb ≤ 6) (h0 : 0 < nb) : uF nb code nb = 2 ^ nb - 1 ↔ ∀ k, k < nb → ∃ b, b < nb ∧ dg nb code b = k := by
  constructor
  · intro h k hk
    have h1 := full_bits nb (by omega) _ (uF_lt h6 h0 nb) h
    have h2 := List.all_eq_true.mp h1 k (List.mem_range.mpr hk)
    obtain ⟨b, _, h4, h5⟩ := (uF_bit h6 h0 hk nb (Nat.le_refl _)).mp (by simpa using h2)
    exact ⟨b, h4, h5⟩
  · intro h
    refine bits_full nb (by omega) _ (uF_lt h6 h0 nb) ⟨uF_pw h6 h0 nb, List.all_eq_true.mpr (fun k hk => ?_)⟩
    have hk := List.mem_range.mp hk
    obtain ⟨b, h4, h5⟩ := h k hk
    have := (uF_bit h6 h0 hk nb (Nat.le_refl _)).mpr ⟨b, by omega, h4, h5⟩
    simpa using this
theorem fstI_sp {ce : Nat → Nat} {c : Nat} : ∀ m, held m ce c = true → ce (fstI ce c m) = c ∧ fstI ce c m < m
  | 0, h => by
    obtain ⟨i, hi, _⟩ := held_t.mp h
    omega
  | m + 1, h => by
    show ce (if held m ce c = true then fstI ce c m else m) = c ∧ (if held m ce c = true then fstI ce c m else m) < m + 1
    by_cases q : held m ce c = true
    · rw [if_pos q]
      have := fstI_sp m q
      exact ⟨this.1, by omega⟩
    · rw [if_neg q]
      obtain ⟨i, hi, e⟩ := held_t.mp h
      by_cases z : i = m
      · rw [z] at e
        exact ⟨e, by omega⟩
      · exact absurd (held_t.mpr ⟨i, by omega, e⟩) q
theorem onto_inj {n : Nat} {f : Nat → Nat} (h : ∀ k, k < n → ∃ b, b < n ∧ f b = k) : ∀ a b, a < b → b < n → ¬ f a = f b := fun a b hab hb e => by
  have hh : ∀ y, y < n → held n f y = true := fun y hy => held_t.mpr (h y hy)
  have g1 : ∀ y, y < n → f (fstI f y n) = y ∧ fstI f y n < n := fun y hy => fstI_sp n (hh y hy)
  have on : ∀ i, i < n → ∃ y, y < n ∧ fstI f y n = i := fun i hi => fb_onto (f := fun y => fstI f y n) (fun y hy => (g1 y hy).2) (fun y z hyz hz q => by
    have q : fstI f y n = fstI f z n := q
    have e1 := (g1 y (by omega)).1
    rw [q, (g1 z hz).1] at e1
    omega) hi
  obtain ⟨y, hy, ey⟩ := on a (by omega)
  obtain ⟨z, hz, ez⟩ := on b hb
  have e1 := (g1 y hy).1
  have e2 := (g1 z hz).1
  rw [ey] at e1
  rw [ez] at e2
  rw [e1, e2] at e
  rw [e, ez] at ey
  omega
theorem inj_onto {n : Nat} {f : Nat → Nat} (hf : ∀ i, i < n → f i < n) (h : ∀ a b, a < b → b < n → ¬ f a = f b) : ∀ k, k < n → ∃ b, b < n ∧ f b = k := fun k hk => fb_onto hf (fun i j hij hj e => h i j hij hj e) hk
/-- a code for a row -/
def cdS (nb : Nat) (f : Nat → Nat) : Nat → Nat
  | 0 => 0
  | k + 1 => cdS nb f k * nb + f k
theorem cdS_lt {nb : Nat} {f : Nat → Nat} (hf : ∀ i, i < nb → f i < nb) : ∀ k, k ≤ nb → cdS nb f k < nb ^ k
  | 0, _ => by show 0 < 1; decide
  | k + 1, hk => by
    have h1 := cdS_lt hf k (by omega)
    have h2 := hf k (by omega)
    show cdS nb f k * nb + f k < nb ^ k * nb
    have h3 : (cdS nb f k + 1) * nb ≤ nb ^ k * nb := Nat.mul_le_mul_right nb h1
    rw [Nat.succ_mul] at h3
    omega
theorem cdS_dg {nb : Nat} {f : Nat → Nat} (h0 : 0 < nb) (hf : ∀ i, i < nb → f i < nb) : ∀ k, k ≤ nb → ∀ b, b < k → cdS nb f k / nb ^ (k - 1 - b) % nb = f b
  | 0, _, b, hb => absurd hb (by omega)
  | k + 1, hk, b, hb => by
    have h2 := hf k (by omega)
    show (cdS nb f k * nb + f k) / nb ^ (k - b) % nb = f b
    rcases Nat.lt_succ_iff_lt_or_eq.mp hb with z | z
    · have ih := cdS_dg h0 hf k (by omega) b z
      rw [show k - b = (k - 1 - b) + 1 by omega, Nat.pow_succ, Nat.mul_comm (nb ^ (k - 1 - b)) nb, ← Nat.div_div_eq_div_mul]
      have e : (cdS nb f k * nb + f k) / nb = cdS nb f k := by
        rw [Nat.mul_comm, Nat.mul_add_div h0, Nat.div_eq_of_lt h2, Nat.add_zero]
      rw [e]
      exact ih
    · rw [z, Nat.sub_self, Nat.pow_zero, Nat.div_one, Nat.mul_comm, Nat.mul_add_mod]
      exact Nat.mod_eq_of_lt h2
theorem PVL.congr {V : xV} {t x : Nat → Nat} {k : Nat} (h : PVL V t k) (e : ∀ j, j < k → x j = t j) : PVL V x k := ⟨fun b hb => by rw [e b hb]; exact h.1 b hb, fun a b hab hb => by rw [e a (by omega), e b hb]; exact h.2.1 a b hab hb, fun a b hab hb => by rw [e a (by omega), e b hb]; exact h.2.2 a b hab hb⟩
def Sc (V : xV) (c : Nat) : (Nat → Nat) → Prop := fun t => ∃ c', c' < c ∧ ∀ j, j < V 8 0 → t j = rwS V c' j
theorem Sc_s {V : xV} {c : Nat} (t : Nat → Nat) : Sc V (c + 1) t ↔ (Sc V c t ∨ ∀ j, j < V 8 0 → t j = rwS V c j) := by
  constructor
  · rintro ⟨c', h1, h2⟩
    rcases Nat.lt_succ_iff_lt_or_eq.mp h1 with z | z
    · exact Or.inl ⟨c', z, h2⟩
    · rw [z] at h2
      exact Or.inr h2
  · rintro (⟨c', h1, h2⟩ | h)
    · exact ⟨c', by omega, h2⟩
    · exact ⟨c, by omega, h⟩
theorem Sc_no {V : xV} {c : Nat} {acc : xB} (h : BST V (Sc V c) acc) (hn : ¬ PVL V (rwS V c) (V 8 0)) : BST V (Sc V (c + 1)) acc := h.congr (fun t ht => by
  rw [Sc_s]
  exact ⟨Or.inl, fun q => q.elim id (fun z => absurd (ht.congr (fun j hj => (z j hj).symm)) hn)⟩)
theorem Sc_all {V : xV} {B : Nat} (hv : VOK V B) (h0 : 0 < V 8 0) {t : Nat → Nat} (ht : PVL V t (V 8 0)) : Sc V (V 8 0 ^ V 8 0) t := by
  have hf : ∀ i, i < V 8 0 → fstI (V 3) (t i) (V 8 0) < V 8 0 := fun i hi => (fstI_sp (V 8 0) (held_t.mpr (ht.1 i hi))).2
  refine ⟨cdS (V 8 0) (fun i => fstI (V 3) (t i) (V 8 0)) (V 8 0), cdS_lt hf _ (Nat.le_refl _), fun j hj => ?_⟩
  unfold rwS dg
  rw [cdS_dg h0 hf (V 8 0) (Nat.le_refl _) j hj]
  exact (fstI_sp (V 8 0) (held_t.mpr (ht.1 j hj))).1.symm
theorem rw_pvl {V : xV} {B c : Nat} (hv : VOK V B) (hy : VSY V) (h0 : 0 < V 8 0) : PVL V (rwS V c) (V 8 0) ↔ (uF (V 8 0) c (V 8 0) = 2 ^ (V 8 0) - 1 ∧ ∀ a b, a < b → b < V 8 0 → bget (V 5 a) b = 1 → ¬ rnd (rwS V c a) (rwS V c b) = 1) := by
  have v6 := hv.1
  have vdi : ∀ i j, i < V 8 0 → j < V 8 0 → V 3 i = V 3 j → i = j := by
    obtain ⟨_, _, _, _, _, _, _, _, _, _, _, vdi⟩ := hv
    exact vdi
  rw [uF_on v6 h0]
  constructor
  · rintro ⟨h1, h2, h3⟩
    refine ⟨inj_onto (fun i hi => dg_lt h0) (fun a b hab hb e => h2 a b hab hb (congrArg (V 3) e)), fun a b hab hb q => h3 a b hab hb ?_⟩
    rw [hy b a hb (by omega)]
    exact q
  · rintro ⟨h1, h2⟩
    refine ⟨fun b hb => ⟨dg (V 8 0) c b, dg_lt h0, rfl⟩, fun a b hab hb e => onto_inj h1 a b hab hb (vdi _ _ (dg_lt h0) (dg_lt h0) e), fun a b hab hb q => h2 a b hab hb ?_⟩
    rw [hy a b (by omega) hb]
    exact q
theorem uF_lt6 {nb code : Nat} (h6 : nb ≤ 6) : uF nb code nb < 64 := by
  rcases Nat.eq_zero_or_pos nb with z | z
  · rw [z]
    exact (show 0 < 64 by decide)
  · exact uF_lt h6 z nb
theorem rw_pvl6 {V : xV} {B c : Nat} (hv : VOK V B) (hy : VSY V) : PVL V (rwS V c) (V 8 0) ↔ (uF (V 8 0) c (V 8 0) = 2 ^ (V 8 0) - 1 ∧ ∀ a b, a < b → b < V 8 0 → bget (V 5 a) b = 1 → ¬ rnd (rwS V c a) (rwS V c b) = 1) := by
  rcases Nat.eq_zero_or_pos (V 8 0) with z | z
  · rw [z]
    exact ⟨fun _ => ⟨rfl, fun a b _ hb => absurd hb (by omega)⟩, fun _ => ⟨fun b hb => absurd hb (by omega), fun a b _ hb => absurd hb (by omega), fun a b _ hb => absurd hb (by omega)⟩⟩
  · exact rw_pvl hv hy z
theorem Sc_all6 {V : xV} {B : Nat} (hv : VOK V B) {t : Nat → Nat} (ht : PVL V t (V 8 0)) : Sc V (V 8 0 ^ V 8 0) t := by
  rcases Nat.eq_zero_or_pos (V 8 0) with z | z
  · exact ⟨0, by rw [z]; decide, fun j hj => absurd hj (by omega)⟩
  · exact Sc_all hv z ht
theorem csm_72 {V : xV} {t : Nat → Nat} {B : Nat} (hv : VOK V B) (h : PVL V t (V 8 0)) : csm V t (V 8 0) < 1000 := by
  have h1 := csm_le (V := V) (t := t) (V 8 0) (fun j hj => ⟨by obtain ⟨_, _, _, vb, _⟩ := hv; exact (vb j hj).2.2.1, PVL.lt hv h j hj⟩)
  have v6 := hv.1
  omega
theorem vl_first {t x : Nat → Nat} {i : Nat} (he : ∀ j, j < i → t j = x j) (hl : t i < x i) : ∀ n, i < n → (∀ j, j < n → t j < 64 ∧ x j < 64) → vl t n < vl x n
  | 0, h, _ => absurd h (by omega)
  | n + 1, h, hd => by
    have h0 := hd n (by omega)
    show vl t n * 64 + t n < vl x n * 64 + x n
    by_cases z : i = n
    · subst z
      rw [vl_congr i he]
      omega
    · have := vl_first he hl n (by omega) (fun j hj => hd j (by omega))
      omega
/-- the reference's state -/
def SEM (V : xV) (J : xI) (M : Nat) (acc : xB) (y : Int32) : Prop := match acc with
  | none => y = -1
  | some r => y = nI r.1 ∧ ∃ ci : Nat → Nat, ∀ j, j < V 8 0 → ci j < V 8 0 ∧ J (M + 25) j = nI (ci j) ∧ r.2 j = V 3 (ci j)
def mdE (M : Nat) (I J : xI) : Prop := ∀ a, a ≠ M + 24 → a ≠ M + 25 → J a = I a
theorem mdE.mdP {M : Nat} {I J : xI} (h : mdE M I J) : mdP M I J := ⟨fun a p => h a (by omega) (by omega), fun k p => by rw [h M (by omega) (by omega)]⟩
theorem MDV.keepE {I J : xI} {M : Nat} {V : xV} (h : MDV I M V) (f : mdE M I J) : MDV J M V := h.keep (fun k hk => by rw [f M (by omega) (by omega)]) (fun j hj => f _ (by omega) (by omega))
theorem one_sub : ∀ nb, nb < 7 → ((1 : Int32) <<< (nI nb &&& 31)) - 1 = nI (2 ^ nb - 1) := by decide +kernel
theorem pw_nb : ∀ nb, nb < 7 → ∀ i, i < 7 → nb ^ i ≤ 46656 := by decide

set_option maxHeartbeats 4000000 in
set_option maxRecDepth 100000 in
theorem lm_fits2 {T : xT} {n : Nat} {sh : Nat → Nat × Nat} {I : xI} {R : xR} {L : xL} {P : xPost} {M : Nat} (hM : xModel sh R M) {V : xV} {B : Nat} (h : MDV I M V) (hv : VOK V B) {t : Nat → Nat} (ht : ∀ j, j < V 8 0 → t j < V 8 0 ∧ I (M + 24) j = nI (t j)) {a : Nat} (ha : a < V 8 0) (K1 : (∀ b, a < b → b < V 8 0 → bget (V 5 a) b = 1 → ¬ rnd (V 3 (t a)) (V 3 (t b)) = 1) → X T zX10_fits 2 0 0 P 2 [(0, .ref M), (1, .int (nI (V 8 0))), (2, .int (nI (a + 1)))] [] (n, sh, 0, 0) I R L) (K2 : (∃ b, a < b ∧ b < V 8 0 ∧ bget (V 5 a) b = 1 ∧ rnd (V 3 (t a)) (V 3 (t b)) = 1) → P (n, sh, 0, 0) I R L (some (.int 0)))  : ∀ (w i : Nat), i + w = V 8 0 → a < i → (∀ b, a < b → b < i → bget (V 5 a) b = 1 → ¬ rnd (V 3 (t a)) (V 3 (t b)) = 1) → X T zX10_fits 2 0 0 P 11 [(0, .ref M), (1, .int (nI (V 8 0))), (2, .int (nI a)), (3, .int (nI i))] [] (n, sh, 0, 0) (I) R L := by
  obtain ⟨v6, v12, v10, vb, vf, vw, vm, vta, vte, vod, vrg, vdi⟩ := id hv
  have ra := (vb _ (ht a ha).1).2.2.2.1
  intro w
  induction w with
  | zero =>
    intro i hw hai hno
    have hz : i = V 8 0 := by omega
    refine x_iload_n (pc := 11) dX10_fits_11 rfl rfl ?_
    refine x_iload_n (pc := 12) dX10_fits_12 rfl rfl ?_
    refine x_icmpn_ge_t (pc := 13) (tgt := 68) (a := i) (b := (V 8 0)) dX10_fits_13 (by decide) (by omega) (by omega) (by omega) ?_
    refine x_iinc (pc := 68) (v := nI (a + 1)) (lv' := [(0, .ref M), (1, .int (nI (V 8 0))), (2, .int (nI (a + 1))), (3, .int (nI i))]) dX10_fits_68 rfl (nI_1 _) (by decide) rfl ?_
    refine x_goto (pc := 71) (tgt := 2) dX10_fits_71 (by decide) ?_
    exact X.keep [0, 1, 2] rfl (K1 (fun b h1 h2 => hno b h1 (by omega)))
  | succ w ih =>
    intro i hw hai hno
    have hi : i < V 8 0 := by omega
    refine x_iload_n (pc := 11) dX10_fits_11 rfl rfl ?_
    refine x_iload_n (pc := 12) dX10_fits_12 rfl rfl ?_
    refine x_icmpn_ge_f (pc := 13) (tgt := 68) (a := i) (b := (V 8 0)) dX10_fits_13 (by decide) (by omega) (by omega) (by omega) ?_
    refine x_aload_n (pc := 16) dX10_fits_16 rfl rfl ?_
    refine x_getr (pc := 17) dX10_fits_17 kf_RX10_38 hM.s rfl hM.f5 ?_
    refine x_iload_n (pc := 20) dX10_fits_20 rfl rfl ?_
    refine x_ialdn (pc := 21) (a := a) dX10_fits_21 hM.s5 (by omega) (by omega) ?_
    rw [show I (M + 6) a = nI (V 5 a) from h.2.2.2.2.2.2.2.1 5 (by decide) a ha]
    refine x_iload_n (pc := 22) dX10_fits_22 rfl rfl ?_
    refine x_ishr (pc := 23) dX10_fits_23 ?_
    refine x_iconst (pc := 24) (v := 1) dX10_fits_24 (by decide) ?_
    refine x_iand (pc := 25) dX10_fits_25 ?_
    rw [bget_m _ (pw6 (vf a ha) v6) i (by omega)]
    have hbg := @bget_lt (V 5 a) i
    refine x_iconst (pc := 26) (v := 1) dX10_fits_26 (by decide) ?_
    refine x_icmpn_ne (pc := 27) (tgt := 62) (a := (bget (V 5 a) i)) (b := 1) dX10_fits_27 (by decide) (by omega) (by decide) (fun c27 => ?_) (fun c27 => ?_)
    · skip
      refine x_iinc (pc := 62) (v := nI (i + 1)) (lv' := [(0, .ref M), (1, .int (nI (V 8 0))), (2, .int (nI a)), (3, .int (nI (i + 1)))]) dX10_fits_62 rfl (nI_1 _) (by decide) rfl ?_
      refine x_goto (pc := 65) (tgt := 11) dX10_fits_65 (by decide) ?_
      exact ih (i + 1) (by omega) (by omega) (fun b h1 h2 q => (Nat.lt_succ_iff_lt_or_eq.mp h2).elim (fun z => hno b h1 z q) (fun z => by subst z; first | exact c57 | exact absurd q c27))
    · skip
      refine x_aload_n (pc := 30) dX10_fits_30 rfl rfl ?_
      refine x_aload_n (pc := 31) dX10_fits_31 rfl rfl ?_
      refine x_getr (pc := 32) dX10_fits_32 kf_RX10_32 hM.s rfl hM.f3 ?_
      refine x_aload_n (pc := 35) dX10_fits_35 rfl rfl ?_
      refine x_getr (pc := 36) dX10_fits_36 kf_RX10_144 hM.s rfl hM.f23 ?_
      refine x_iload_n (pc := 39) dX10_fits_39 rfl rfl ?_
      refine x_ialdn (pc := 40) (a := a) dX10_fits_40 hM.s23 (by omega) (by omega) ?_
      rw [(ht a ha).2]
      have ta := (ht a ha).1
      refine x_ialdn (pc := 41) (a := (t a)) dX10_fits_41 hM.s3 (by omega) (by omega) ?_
      rw [show I (M + 4) (t a) = nI (V 3 (t a)) from h.2.2.2.2.2.2.2.1 3 (by decide) _ (ht a ha).1]
      refine x_aload_n (pc := 42) dX10_fits_42 rfl rfl ?_
      refine x_getr (pc := 43) dX10_fits_43 kf_RX10_32 hM.s rfl hM.f3 ?_
      refine x_aload_n (pc := 46) dX10_fits_46 rfl rfl ?_
      refine x_getr (pc := 47) dX10_fits_47 kf_RX10_144 hM.s rfl hM.f23 ?_
      refine x_iload_n (pc := 50) dX10_fits_50 rfl rfl ?_
      refine x_ialdn (pc := 51) (a := i) dX10_fits_51 hM.s23 (by omega) (by omega) ?_
      rw [(ht i hi).2]
      have ti := (ht i hi).1
      refine x_ialdn (pc := 52) (a := (t i)) dX10_fits_52 hM.s3 (by omega) (by omega) ?_
      rw [show I (M + 4) (t i) = nI (V 3 (t i)) from h.2.2.2.2.2.2.2.1 3 (by decide) _ (ht i hi).1]
      have rb := (vb _ (ht i hi).1).2.2.2.1
      refine x_callV (pc := 53) (As := [.int _, .int _]) dX10_fits_53 km_X10_round kv_X10_round kl_RX10_328 hM.s rfl rfl (by decide) ⟨Nat.le_refl _, Nat.le_refl _⟩ rfl (Nat.le_of_ble_eq_true rfl) (Nat.le_of_ble_eq_true rfl) (m_round hM.s ra rb (⟨rfl, rfl, ?_⟩))
      have hrn := rnd_lt ra rb
      refine x_iconst (pc := 56) (v := 1) dX10_fits_56 (by decide) ?_
      refine x_icmpn_ne (pc := 57) (tgt := 62) (a := (rnd (V 3 (t a)) (V 3 (t i)))) (b := 1) dX10_fits_57 (by decide) (by omega) (by decide) (fun c57 => ?_) (fun c57 => ?_)
      · skip
        refine x_iinc (pc := 62) (v := nI (i + 1)) (lv' := [(0, .ref M), (1, .int (nI (V 8 0))), (2, .int (nI a)), (3, .int (nI (i + 1)))]) dX10_fits_62 rfl (nI_1 _) (by decide) rfl ?_
        refine x_goto (pc := 65) (tgt := 11) dX10_fits_65 (by decide) ?_
        exact ih (i + 1) (by omega) (by omega) (fun b h1 h2 q => (Nat.lt_succ_iff_lt_or_eq.mp h2).elim (fun z => hno b h1 z q) (fun z => by subst z; first | exact c57 | exact absurd q c27))
      · skip
        refine x_iconst (pc := 60) (v := 0) dX10_fits_60 (by decide) ?_
        refine x_ireturn (pc := 61) dX10_fits_61 ⟨_, rfl, by decide⟩ ⟨Nat.le_refl _, Nat.le_refl _⟩ ?_
        exact K2 ⟨i, hai, hi, c27, c57⟩

set_option maxHeartbeats 4000000 in
set_option maxRecDepth 100000 in
theorem lm_fits {T : xT} {n : Nat} {sh : Nat → Nat × Nat} {I : xI} {R : xR} {L : xL} {P : xPost} {M : Nat} (hM : xModel sh R M) {V : xV} {B : Nat} (h : MDV I M V) (hv : VOK V B) {t : Nat → Nat} (ht : ∀ j, j < V 8 0 → t j < V 8 0 ∧ I (M + 24) j = nI (t j)) (K1 : (∀ a b, a < b → b < V 8 0 → bget (V 5 a) b = 1 → ¬ rnd (V 3 (t a)) (V 3 (t b)) = 1) → P (n, sh, 0, 0) I R L (some (.int 1))) (K2 : (∃ a b, a < b ∧ b < V 8 0 ∧ bget (V 5 a) b = 1 ∧ rnd (V 3 (t a)) (V 3 (t b)) = 1) → P (n, sh, 0, 0) I R L (some (.int 0)))  : ∀ (w i : Nat), i + w = V 8 0 → (∀ a b, a < i → a < b → b < V 8 0 → bget (V 5 a) b = 1 → ¬ rnd (V 3 (t a)) (V 3 (t b)) = 1) → X T zX10_fits 2 0 0 P 2 [(0, .ref M), (1, .int (nI (V 8 0))), (2, .int (nI i))] [] (n, sh, 0, 0) (I) R L := by
  obtain ⟨v6, v12, v10, vb, vf, vw, vm, vta, vte, vod, vrg, vdi⟩ := id hv
  intro w
  induction w with
  | zero =>
    intro i hw hno
    have hz : i = V 8 0 := by omega
    refine x_iload_n (pc := 2) dX10_fits_2 rfl rfl ?_
    refine x_iload_n (pc := 3) dX10_fits_3 rfl rfl ?_
    refine x_icmpn_ge_t (pc := 4) (tgt := 74) (a := i) (b := (V 8 0)) dX10_fits_4 (by decide) (by omega) (by omega) (by omega) ?_
    refine x_iconst (pc := 74) (v := 1) dX10_fits_74 (by decide) ?_
    refine x_ireturn (pc := 75) dX10_fits_75 ⟨_, rfl, by decide⟩ ⟨Nat.le_refl _, Nat.le_refl _⟩ ?_
    exact K1 (fun a b h1 h2 => hno a b (by omega) h1 h2)
  | succ w ih =>
    intro i hw hno
    have hi : i < V 8 0 := by omega
    refine x_iload_n (pc := 2) dX10_fits_2 rfl rfl ?_
    refine x_iload_n (pc := 3) dX10_fits_3 rfl rfl ?_
    refine x_icmpn_ge_f (pc := 4) (tgt := 74) (a := i) (b := (V 8 0)) dX10_fits_4 (by decide) (by omega) (by omega) (by omega) ?_
    refine x_iload_n (pc := 7) dX10_fits_7 rfl rfl ?_
    refine x_iconst (pc := 8) (v := 1) dX10_fits_8 (by decide) ?_
    refine x_iaddn (pc := 9) (a := i) (b := 1) dX10_fits_9 ?_
    refine x_istore_n (pc := 10) (lv' := [(0, .ref M), (1, .int (nI (V 8 0))), (2, .int (nI i)), (3, .int (nI (i + 1)))]) dX10_fits_10 rfl (by decide) rfl ?_
    exact lm_fits2 hM h hv ht hi (fun q => ih (i + 1) (by omega) (fun a b h1 h2 h3 => (Nat.lt_succ_iff_lt_or_eq.mp h1).elim (fun z => hno a b z h2 h3) (fun z => by subst z; exact q b h2 h3))) (fun ⟨b, h1, h2, h3, h4⟩ => K2 ⟨i, b, h1, h2, h3, h4⟩) (V 8 0 - (i + 1)) (i + 1) (by omega) (by omega) (fun b h1 h2 => by omega)

set_option maxHeartbeats 4000000 in
set_option maxRecDepth 100000 in
theorem m_fits {T : xT} {n : Nat} {sh : Nat → Nat × Nat} {I : xI} {R : xR} {L : xL} {P : xPost} {M : Nat} (hM : xModel sh R M) {V : xV} {B : Nat} (h : MDV I M V) (hv : VOK V B) {t : Nat → Nat} (ht : ∀ j, j < V 8 0 → t j < V 8 0 ∧ I (M + 24) j = nI (t j)) (K1 : (∀ a b, a < b → b < V 8 0 → bget (V 5 a) b = 1 → ¬ rnd (V 3 (t a)) (V 3 (t b)) = 1) → P (n, sh, 0, 0) I R L (some (.int 1))) (K2 : (∃ a b, a < b ∧ b < V 8 0 ∧ bget (V 5 a) b = 1 ∧ rnd (V 3 (t a)) (V 3 (t b)) = 1) → P (n, sh, 0, 0) I R L (some (.int 0)))  : XM T zX10_fits 2 [.ref M, .int (nI (V 8 0))] n sh I R L P := by
  refine x_iconst (pc := 0) (v := 0) dX10_fits_0 (by decide) ?_
  refine x_istore_n (pc := 1) (lv' := [(0, .ref M), (1, .int (nI (V 8 0))), (2, .int 0)]) dX10_fits_1 rfl (by decide) rfl ?_
  exact lm_fits hM h hv ht K1 K2 (V 8 0) 0 (by omega) (fun a b h1 => absurd h1 (by omega))

set_option maxHeartbeats 4000000 in
set_option maxRecDepth 100000 in
theorem lm_ahead {T : xT} {n : Nat} {sh : Nat → Nat × Nat} {I : xI} {R : xR} {L : xL} {P : xPost} {M : Nat} (hM : xModel sh R M) {V : xV} {B : Nat} (h : MDV I M V) (hv : VOK V B) {t : Nat → Nat} (ht : ∀ j, j < V 8 0 → t j < V 8 0 ∧ I (M + 24) j = nI (t j)) {ci : Nat → Nat} (hc : ∀ j, j < V 8 0 → ci j < V 8 0 ∧ I (M + 25) j = nI (ci j)) (K1 : vl (fun j => V 3 (t j)) (V 8 0) < vl (fun j => V 3 (ci j)) (V 8 0) → P (n, sh, 0, 0) I R L (some (.int 1))) (K2 : vl (fun j => V 3 (ci j)) (V 8 0) ≤ vl (fun j => V 3 (t j)) (V 8 0) → P (n, sh, 0, 0) I R L (some (.int 0)))  : ∀ (w i : Nat), i + w = V 8 0 → (∀ j, j < i → V 3 (t j) = V 3 (ci j)) → X T zX10_isAhead 0 0 0 P 2 [(0, .ref M), (1, .int (nI (V 8 0))), (2, .int (nI i))] [] (n, sh, 0, 0) (I) R L := by
  obtain ⟨v6, v12, v10, vb, vf, vw, vm, vta, vte, vod, vrg, vdi⟩ := id hv
  intro w
  induction w with
  | zero =>
    intro i hw heq
    have hz : i = V 8 0 := by omega
    refine x_iload_n (pc := 2) dX10_isAhead_2 rfl rfl ?_
    refine x_iload_n (pc := 3) dX10_isAhead_3 rfl rfl ?_
    refine x_icmpn_ge_t (pc := 4) (tgt := 69) (a := i) (b := (V 8 0)) dX10_isAhead_4 (by decide) (by omega) (by omega) (by omega) ?_
    refine x_iconst (pc := 69) (v := 0) dX10_isAhead_69 (by decide) ?_
    refine x_ireturn (pc := 70) dX10_isAhead_70 ⟨_, rfl, by decide⟩ ⟨Nat.le_refl _, Nat.le_refl _⟩ ?_
    exact K2 (Nat.le_of_eq (vl_congr (V 8 0) (fun j hj => (heq j (by omega)).symm)))
  | succ w ih =>
    intro i hw heq
    have hi : i < V 8 0 := by omega
    refine x_iload_n (pc := 2) dX10_isAhead_2 rfl rfl ?_
    refine x_iload_n (pc := 3) dX10_isAhead_3 rfl rfl ?_
    refine x_icmpn_ge_f (pc := 4) (tgt := 69) (a := i) (b := (V 8 0)) dX10_isAhead_4 (by decide) (by omega) (by omega) (by omega) ?_
    refine x_aload_n (pc := 7) dX10_isAhead_7 rfl rfl ?_
    refine x_getr (pc := 8) dX10_isAhead_8 kf_RX10_32 hM.s rfl hM.f3 ?_
    refine x_aload_n (pc := 11) dX10_isAhead_11 rfl rfl ?_
    refine x_getr (pc := 12) dX10_isAhead_12 kf_RX10_144 hM.s rfl hM.f23 ?_
    refine x_iload_n (pc := 15) dX10_isAhead_15 rfl rfl ?_
    refine x_ialdn (pc := 16) (a := i) dX10_isAhead_16 hM.s23 (by omega) (by omega) ?_
    rw [(ht i hi).2]
    have ti16 := (ht i hi).1
    refine x_ialdn (pc := 17) (a := (t i)) dX10_isAhead_17 hM.s3 (by omega) (by omega) ?_
    rw [show I (M + 4) (t i) = nI (V 3 (t i)) from h.2.2.2.2.2.2.2.1 3 (by decide) _ (ht i hi).1]
    have ra16 := (vb _ (ht i hi).1).2.2.2.1
    refine x_aload_n (pc := 18) dX10_isAhead_18 rfl rfl ?_
    refine x_getr (pc := 19) dX10_isAhead_19 kf_RX10_32 hM.s rfl hM.f3 ?_
    refine x_aload_n (pc := 22) dX10_isAhead_22 rfl rfl ?_
    refine x_getr (pc := 23) dX10_isAhead_23 kf_RX10_147 hM.s rfl hM.f24 ?_
    refine x_iload_n (pc := 26) dX10_isAhead_26 rfl rfl ?_
    refine x_ialdn (pc := 27) (a := i) dX10_isAhead_27 hM.s24 (by omega) (by omega) ?_
    rw [(hc i hi).2]
    have tc27 := (hc i hi).1
    refine x_ialdn (pc := 28) (a := (ci i)) dX10_isAhead_28 hM.s3 (by omega) (by omega) ?_
    rw [show I (M + 4) (ci i) = nI (V 3 (ci i)) from h.2.2.2.2.2.2.2.1 3 (by decide) _ (hc i hi).1]
    have rc27 := (vb _ (hc i hi).1).2.2.2.1
    refine x_icmpn_eq (pc := 29) (tgt := 63) (a := (V 3 (t i))) (b := (V 3 (ci i))) dX10_isAhead_29 (by decide) (by omega) (by omega) (fun c29 => ?_) (fun c29 => ?_)
    · skip
      refine x_iinc (pc := 63) (v := nI (i + 1)) (lv' := [(0, .ref M), (1, .int (nI (V 8 0))), (2, .int (nI (i + 1)))]) dX10_isAhead_63 rfl (nI_1 _) (by decide) rfl ?_
      refine x_goto (pc := 66) (tgt := 2) dX10_isAhead_66 (by decide) ?_
      exact ih (i + 1) (by omega) (fun j hj => (Nat.lt_succ_iff_lt_or_eq.mp hj).elim (heq j) (fun z => by subst z; exact c29))
    · skip
      refine x_aload_n (pc := 32) dX10_isAhead_32 rfl rfl ?_
      refine x_getr (pc := 33) dX10_isAhead_33 kf_RX10_32 hM.s rfl hM.f3 ?_
      refine x_aload_n (pc := 36) dX10_isAhead_36 rfl rfl ?_
      refine x_getr (pc := 37) dX10_isAhead_37 kf_RX10_144 hM.s rfl hM.f23 ?_
      refine x_iload_n (pc := 40) dX10_isAhead_40 rfl rfl ?_
      refine x_ialdn (pc := 41) (a := i) dX10_isAhead_41 hM.s23 (by omega) (by omega) ?_
      rw [(ht i hi).2]
      have ti41 := (ht i hi).1
      refine x_ialdn (pc := 42) (a := (t i)) dX10_isAhead_42 hM.s3 (by omega) (by omega) ?_
      rw [show I (M + 4) (t i) = nI (V 3 (t i)) from h.2.2.2.2.2.2.2.1 3 (by decide) _ (ht i hi).1]
      have ra41 := (vb _ (ht i hi).1).2.2.2.1
      refine x_aload_n (pc := 43) dX10_isAhead_43 rfl rfl ?_
      refine x_getr (pc := 44) dX10_isAhead_44 kf_RX10_32 hM.s rfl hM.f3 ?_
      refine x_aload_n (pc := 47) dX10_isAhead_47 rfl rfl ?_
      refine x_getr (pc := 48) dX10_isAhead_48 kf_RX10_147 hM.s rfl hM.f24 ?_
      refine x_iload_n (pc := 51) dX10_isAhead_51 rfl rfl ?_
      refine x_ialdn (pc := 52) (a := i) dX10_isAhead_52 hM.s24 (by omega) (by omega) ?_
      rw [(hc i hi).2]
      have tc52 := (hc i hi).1
      refine x_ialdn (pc := 53) (a := (ci i)) dX10_isAhead_53 hM.s3 (by omega) (by omega) ?_
      rw [show I (M + 4) (ci i) = nI (V 3 (ci i)) from h.2.2.2.2.2.2.2.1 3 (by decide) _ (hc i hi).1]
      have rc52 := (vb _ (hc i hi).1).2.2.2.1
      refine x_icmpn_ge (pc := 54) (tgt := 61) (a := (V 3 (t i))) (b := (V 3 (ci i))) dX10_isAhead_54 (by decide) (by omega) (by omega) (fun c54 => ?_) (fun c54 => ?_)
      · skip
        refine x_iconst (pc := 61) (v := 0) dX10_isAhead_61 (by decide) ?_
        refine x_ireturn (pc := 62) dX10_isAhead_62 ⟨_, rfl, by decide⟩ ⟨Nat.le_refl _, Nat.le_refl _⟩ ?_
        exact K2 (Nat.le_of_lt (vl_first (i := i) (fun j hj => (heq j hj).symm) (show V 3 (ci i) < V 3 (t i) by omega) (V 8 0) hi (fun j hj => ⟨by have := (vb _ (hc j hj).1).2.2.2.1; show V 3 (ci j) < 64; omega, by have := (vb _ (ht j hj).1).2.2.2.1; show V 3 (t j) < 64; omega⟩)))
      · skip
        refine x_iconst (pc := 57) (v := 1) dX10_isAhead_57 (by decide) ?_
        refine x_goto (pc := 58) (tgt := 62) dX10_isAhead_58 (by decide) ?_
        refine x_ireturn (pc := 62) dX10_isAhead_62 ⟨_, rfl, by decide⟩ ⟨Nat.le_refl _, Nat.le_refl _⟩ ?_
        exact K1 (vl_first (i := i) heq c54 (V 8 0) hi (fun j hj => ⟨by have := (vb _ (ht j hj).1).2.2.2.1; show V 3 (t j) < 64; omega, by have := (vb _ (hc j hj).1).2.2.2.1; show V 3 (ci j) < 64; omega⟩))

set_option maxHeartbeats 4000000 in
set_option maxRecDepth 100000 in
theorem m_isAhead {T : xT} {n : Nat} {sh : Nat → Nat × Nat} {I : xI} {R : xR} {L : xL} {P : xPost} {M : Nat} (hM : xModel sh R M) {V : xV} {B : Nat} (h : MDV I M V) (hv : VOK V B) {t : Nat → Nat} (ht : ∀ j, j < V 8 0 → t j < V 8 0 ∧ I (M + 24) j = nI (t j)) {ci : Nat → Nat} (hc : ∀ j, j < V 8 0 → ci j < V 8 0 ∧ I (M + 25) j = nI (ci j)) (K1 : vl (fun j => V 3 (t j)) (V 8 0) < vl (fun j => V 3 (ci j)) (V 8 0) → P (n, sh, 0, 0) I R L (some (.int 1))) (K2 : vl (fun j => V 3 (ci j)) (V 8 0) ≤ vl (fun j => V 3 (t j)) (V 8 0) → P (n, sh, 0, 0) I R L (some (.int 0)))  : XM T zX10_isAhead 0 [.ref M, .int (nI (V 8 0))] n sh I R L P := by
  refine x_iconst (pc := 0) (v := 0) dX10_isAhead_0 (by decide) ?_
  refine x_istore_n (pc := 1) (lv' := [(0, .ref M), (1, .int (nI (V 8 0))), (2, .int 0)]) dX10_isAhead_1 rfl (by decide) rfl ?_
  exact lm_ahead hM h hv ht hc K1 K2 (V 8 0) 0 (by omega) (fun j hj => absurd hj (by omega))

set_option maxHeartbeats 4000000 in
set_option maxRecDepth 100000 in
theorem lm_seC {T : xT} {n : Nat} {sh : Nat → Nat × Nat} {I : xI} {R : xR} {L : xL} {P : xPost} {M : Nat} (hM : xModel sh R M) {V : xV} {B : Nat} (h : MDV I M V) (hv : VOK V B) {c cs : Nat} {x y : Int32} (hc : c < 46656) (K : ∀ J : xI, (∀ j, j < V 8 0 → J (M + 24) j = nI (dg (V 8 0) c j)) → (∀ a, a ≠ M + 24 → J a = I a) → X T zX10_seats 3 0 0 P 147 [(0, .ref M), (1, .int x), (2, .int (nI cs)), (3, .int (y)), (4, .int (nI (c))), (6, .int (nI (uF (V 8 0) c (V 8 0)))), (7, .int (nI (sF V c (V 8 0))))] [] (n, sh, 0, 0) J R L)  : ∀ (w i : Nat), i + w = V 8 0 → ∀ (J : xI), (∀ j, w ≤ j → j < V 8 0 → J (M + 24) j = nI (dg (V 8 0) c j)) → (∀ a, a ≠ M + 24 → J a = I a) → X T zX10_seats 3 0 0 P 71 [(0, .ref M), (1, .int x), (2, .int (nI cs)), (3, .int y), (4, .int (nI c)), (5, .int (nI (c / V 8 0 ^ i))), (6, .int (nI (uF (V 8 0) c i))), (7, .int (nI (sF V c i))), (8, .int (nI w - 1))] [] (n, sh, 0, 0) (J) R L := by
  obtain ⟨v6, v12, v10, vb, vf, vw, vm, vta, vte, vod, vrg, vdi⟩ := id hv
  intro w
  induction w with
  | zero =>
    intro i hw J hd fj
    have hz : i = V 8 0 := by omega
    refine x_iload (pc := 71) dX10_seats_71 rfl ?_
    refine x_if_lt_t (pc := 73) (tgt := 147) dX10_seats_73 (by decide) (by decide) ?_
    rw [hz]
    exact X.keep [0, 1, 2, 3, 4, 6, 7] rfl (K J (fun j hj => hd j (by omega) hj) fj)
  | succ w ih =>
    intro i hw J hd fj
    have hi : i < V 8 0 := by omega
    rw [show nI (w + 1) - 1 = nI w from pk_sub (b := 1) (by omega)]
    have h0 : 0 < V 8 0 := by omega
    have hcd : c / V 8 0 ^ i ≤ c := Nat.div_le_self _ _
    refine x_iload (pc := 71) dX10_seats_71 rfl ?_
    refine x_ifn_lt (pc := 73) (a := w) dX10_seats_73 ⟨147, by decide⟩ (by omega) ?_
    refine x_aload_n (pc := 76) dX10_seats_76 rfl rfl ?_
    refine x_getr (pc := 77) dX10_seats_77 kf_RX10_144 hM.s rfl hM.f23 ?_
    refine x_iload (pc := 80) dX10_seats_80 rfl ?_
    refine x_iload (pc := 82) dX10_seats_82 rfl ?_
    refine x_aload_n (pc := 84) dX10_seats_84 rfl rfl ?_
    refine x_get (pc := 85) dX10_seats_85 kf_RX10_7 hM.s rfl ?_
    rw [show J M 0 = nI (V 8 0) from (congrFun (fj M (by omega)) 0).trans h.1]
    refine x_iremn (pc := 88) (a := (c / V 8 0 ^ i)) (b := (V 8 0)) dX10_seats_88 (by omega) (by omega) (by omega) ?_
    have edg : c / V 8 0 ^ i % V 8 0 = dg (V 8 0) c w := by unfold dg; rw [show V 8 0 - 1 - w = i by omega]
    rw [edg]
    refine x_iastn (pc := 89) (a := w) dX10_seats_89 hM.s23 (by omega) (by omega) ?_
    refine x_iload (pc := 90) dX10_seats_90 rfl ?_
    refine x_aload_n (pc := 92) dX10_seats_92 rfl rfl ?_
    refine x_get (pc := 93) dX10_seats_93 kf_RX10_7 hM.s rfl ?_
    rw [show (up2 J (M + 24) w (nI (dg (V 8 0) c w))) M 0 = nI (V 8 0) from (congrFun (up2_row (by omega)) 0).trans ((congrFun (fj M (by omega)) 0).trans h.1)]
    refine x_idivn (pc := 96) (a := (c / V 8 0 ^ i)) (b := (V 8 0)) dX10_seats_96 (by omega) (by omega) (by omega) ?_
    have ed2 : c / V 8 0 ^ i / V 8 0 = c / V 8 0 ^ (i + 1) := by rw [Nat.div_div_eq_div_mul, Nat.pow_succ]
    rw [ed2]
    refine x_istore (pc := 97) (lv' := [(0, .ref M), (1, .int x), (2, .int (nI cs)), (3, .int y), (4, .int (nI c)), (5, .int (nI (c / V 8 0 ^ (i + 1)))), (6, .int (nI (uF (V 8 0) c i))), (7, .int (nI (sF V c i))), (8, .int (nI w))]) dX10_seats_97 (by decide) rfl ?_
    refine x_iload (pc := 99) dX10_seats_99 rfl ?_
    refine x_iconst (pc := 101) (v := 1) dX10_seats_101 (by decide) ?_
    refine x_aload_n (pc := 102) dX10_seats_102 rfl rfl ?_
    refine x_getr (pc := 103) dX10_seats_103 kf_RX10_144 hM.s rfl hM.f23 ?_
    refine x_iload (pc := 106) dX10_seats_106 rfl ?_
    refine x_ialdn (pc := 108) (a := w) dX10_seats_108 hM.s23 (by omega) (by omega) ?_
    rw [up2_s]
    have dl := @dg_lt (V 8 0) c w h0
    refine x_ishl (pc := 109) dX10_seats_109 ?_
    refine x_ior (pc := 110) dX10_seats_110 ?_
    rw [bset_m1 _ (uF_lt v6 h0 i) _ (by omega), show bset (uF (V 8 0) c i) (dg (V 8 0) c w) true = uF (V 8 0) c (i + 1) from by show _ = bset (uF (V 8 0) c i) (dg (V 8 0) c (V 8 0 - 1 - i)) true; rw [show V 8 0 - 1 - i = w by omega]]
    refine x_istore (pc := 111) (lv' := [(0, .ref M), (1, .int x), (2, .int (nI cs)), (3, .int y), (4, .int (nI c)), (5, .int (nI (c / V 8 0 ^ (i + 1)))), (6, .int (nI (uF (V 8 0) c (i + 1)))), (7, .int (nI (sF V c i))), (8, .int (nI w))]) dX10_seats_111 (by decide) rfl ?_
    refine x_iload (pc := 113) dX10_seats_113 rfl ?_
    refine x_aload_n (pc := 115) dX10_seats_115 rfl rfl ?_
    refine x_aload_n (pc := 116) dX10_seats_116 rfl rfl ?_
    refine x_getr (pc := 117) dX10_seats_117 kf_RX10_29 hM.s rfl hM.f2 ?_
    refine x_iload (pc := 120) dX10_seats_120 rfl ?_
    refine x_ialdn (pc := 122) (a := w) dX10_seats_122 hM.s2 (by omega) (by omega) ?_
    rw [show (up2 J (M + 24) w (nI (dg (V 8 0) c w))) (M + 3) w = nI (V 2 w) from (congrFun (up2_row (by omega)) w).trans ((congrFun (fj (M + 3) (by omega)) w).trans (h.2.2.2.2.2.2.2.1 2 (by decide) w (by omega)))]
    refine x_aload_n (pc := 123) dX10_seats_123 rfl rfl ?_
    refine x_getr (pc := 124) dX10_seats_124 kf_RX10_32 hM.s rfl hM.f3 ?_
    refine x_aload_n (pc := 127) dX10_seats_127 rfl rfl ?_
    refine x_getr (pc := 128) dX10_seats_128 kf_RX10_144 hM.s rfl hM.f23 ?_
    refine x_iload (pc := 131) dX10_seats_131 rfl ?_
    refine x_ialdn (pc := 133) (a := w) dX10_seats_133 hM.s23 (by omega) (by omega) ?_
    rw [up2_s]
    refine x_ialdn (pc := 134) (a := (dg (V 8 0) c w)) dX10_seats_134 hM.s3 (by omega) (by omega) ?_
    rw [show (up2 J (M + 24) w (nI (dg (V 8 0) c w))) (M + 4) (dg (V 8 0) c w) = nI (V 3 (dg (V 8 0) c w)) from (congrFun (up2_row (by omega)) _).trans ((congrFun (fj (M + 4) (by omega)) _).trans (h.2.2.2.2.2.2.2.1 3 (by decide) _ (dg_lt h0)))]
    refine x_callV (pc := 135) (As := [.int _, .int _]) dX10_seats_135 km_X10_round kv_X10_round kl_RX10_328 hM.s rfl rfl (by decide) ⟨Nat.le_refl _, Nat.le_refl _⟩ rfl (Nat.le_of_ble_eq_true rfl) (Nat.le_of_ble_eq_true rfl) (m_round hM.s (vb w (by omega)).2.2.1 (vb _ (dg_lt h0)).2.2.2.1 (⟨rfl, rfl, ?_⟩))
    refine x_iaddn (pc := 138) (a := (sF V c i)) (b := (rnd (V 2 w) (V 3 (dg (V 8 0) c w)))) dX10_seats_138 ?_
    rw [show sF V c i + rnd (V 2 w) (V 3 (dg (V 8 0) c w)) = sF V c (i + 1) from by show _ = sF V c i + rnd (V 2 (V 8 0 - 1 - i)) (rwS V c (V 8 0 - 1 - i)); rw [show V 8 0 - 1 - i = w by omega]; rfl]
    refine x_istore (pc := 139) (lv' := [(0, .ref M), (1, .int x), (2, .int (nI cs)), (3, .int y), (4, .int (nI c)), (5, .int (nI (c / V 8 0 ^ (i + 1)))), (6, .int (nI (uF (V 8 0) c (i + 1)))), (7, .int (nI (sF V c (i + 1)))), (8, .int (nI w))]) dX10_seats_139 (by decide) rfl ?_
    obtain ⟨v141, ev141⟩ : ∃ y : Int32, y = (nI w) + (-1) := ⟨_, rfl⟩
    refine x_iinc (pc := 141) (v := v141) (lv' := [(0, .ref M), (1, .int x), (2, .int (nI cs)), (3, .int y), (4, .int (nI c)), (5, .int (nI (c / V 8 0 ^ (i + 1)))), (6, .int (nI (uF (V 8 0) c (i + 1)))), (7, .int (nI (sF V c (i + 1)))), (8, .int v141)]) dX10_seats_141 rfl (by rw [ev141]; rfl) (by decide) rfl ?_
    refine x_goto (pc := 144) (tgt := 71) dX10_seats_144 (by decide) ?_
    subst ev141
    rw [dec_eq]
    refine ih (i + 1) (by omega) _ (fun j h1 h2 => ?_) (fun a p => (up2_row p).trans (fj a p))
    by_cases z : j = w
    · rw [z, up2_s]
    · rw [up2_k z]
      exact hd j (by omega) h2

set_option maxHeartbeats 4000000 in
set_option maxRecDepth 100000 in
theorem lm_se147 {T : xT} {n : Nat} {sh : Nat → Nat × Nat} {I : xI} {R : xR} {L : xL} {P : xPost} {M : Nat} (hM : xModel sh R M) {V : xV} {B : Nat} (h : MDV I M V) (hv : VOK V B) (hy : VSY V) {c cs : Nat} {x y : Int32} (ht : ∀ j, j < V 8 0 → I (M + 24) j = nI (dg (V 8 0) c j)) (K1 : PVL V (rwS V c) (V 8 0) → X T zX10_seats 3 0 0 P 174 [(0, .ref M), (1, .int x), (2, .int (nI cs)), (3, .int (y)), (4, .int (nI (c))), (7, .int (nI (csm V (rwS V c) (V 8 0))))] [] (n, sh, 0, 0) I R L) (K2 : ¬ PVL V (rwS V c) (V 8 0) → X T zX10_seats 3 0 0 P 239 [(0, .ref M), (1, .int x), (2, .int (nI cs)), (3, .int (y)), (4, .int (nI (c)))] [] (n, sh, 0, 0) I R L)  :  X T zX10_seats 3 0 0 P 147 [(0, .ref M), (1, .int x), (2, .int (nI cs)), (3, .int y), (4, .int (nI c)), (6, .int (nI (uF (V 8 0) c (V 8 0)))), (7, .int (nI (sF V c (V 8 0))))] [] (n, sh, 0, 0) (I) R L := by
  obtain ⟨v6, v12, v10, vb, vf, vw, vm, vta, vte, vod, vrg, vdi⟩ := id hv
  have ul := uF_lt6 (code := c) v6
  have pv := rw_pvl6 (c := c) hv hy
  have p2 := pw_nb 2 (by decide) (V 8 0) (by omega)
  refine x_iload (pc := 147) dX10_seats_147 rfl ?_
  refine x_iconst (pc := 149) (v := 1) dX10_seats_149 (by decide) ?_
  refine x_aload_n (pc := 150) dX10_seats_150 rfl rfl ?_
  refine x_get (pc := 151) dX10_seats_151 kf_RX10_7 hM.s rfl ?_
  rw [h.1]
  refine x_ishl (pc := 154) dX10_seats_154 ?_
  refine x_iconst (pc := 155) (v := 1) dX10_seats_155 (by decide) ?_
  refine x_isub (pc := 156) dX10_seats_156 ?_
  rw [one_sub _ (by omega)]
  refine x_icmpn_ne (pc := 157) (tgt := 239) (a := (uF (V 8 0) c (V 8 0))) (b := (2 ^ V 8 0 - 1)) dX10_seats_157 (by decide) (by omega) (by omega) (fun c157 => ?_) (fun c157 => ?_)
  · skip
    first
    | exact X.keep [0, 1, 2, 3, 4] rfl (K2 (fun q => by have := (pv.mp q).1; omega))
    | exact X.keep [0, 1, 2, 3, 4] rfl (K2 (fun q => by obtain ⟨a, b, h1, h2, h3, h4⟩ := hf; exact (pv.mp q).2 a b h1 h2 h3 h4))
  · skip
    refine x_aload_n (pc := 160) dX10_seats_160 rfl rfl ?_
    refine x_aload_n (pc := 161) dX10_seats_161 rfl rfl ?_
    refine x_get (pc := 162) dX10_seats_162 kf_RX10_7 hM.s rfl ?_
    rw [h.1]
    refine x_callV (pc := 165) (As := [.int _]) dX10_seats_165 km_X10_fits kv_X10_fits kl_RX10_362 hM.s rfl rfl (by decide) ⟨Nat.le_refl _, Nat.le_refl _⟩ rfl (Nat.le_of_ble_eq_true rfl) (Nat.le_of_ble_eq_true rfl) (m_fits (t := dg (V 8 0) c) hM h hv (fun j hj => ⟨dg_lt (Nat.lt_of_le_of_lt (Nat.zero_le j) hj), ht j hj⟩) (fun hf => ⟨rfl, rfl, ?_⟩) (fun hf => ⟨rfl, rfl, ?_⟩))
    · skip
      refine x_if_ne_t (pc := 168) (tgt := 174) dX10_seats_168 (by decide) (by decide) ?_
      have e9 : sF V c (V 8 0) = csm V (rwS V c) (V 8 0) := by have := sF_csm (V := V) (code := c) (V 8 0) (Nat.le_refl _); rw [Nat.sub_self] at this; exact this
      rw [e9]
      exact X.keep [0, 1, 2, 3, 4, 7] rfl (K1 (pv.mpr ⟨by omega, hf⟩))
    · skip
      refine x_if_ne_f (pc := 168) (tgt := 174) dX10_seats_168 (by decide) (by decide) ?_
      refine x_goto (pc := 171) (tgt := 239) dX10_seats_171 (by decide) ?_
      first
      | exact X.keep [0, 1, 2, 3, 4] rfl (K2 (fun q => by have := (pv.mp q).1; omega))
      | exact X.keep [0, 1, 2, 3, 4] rfl (K2 (fun q => by obtain ⟨a, b, h1, h2, h3, h4⟩ := hf; exact (pv.mp q).2 a b h1 h2 h3 h4))

set_option maxHeartbeats 4000000 in
set_option maxRecDepth 100000 in
theorem lm_seD {T : xT} {n : Nat} {sh : Nat → Nat × Nat} {I : xI} {R : xR} {L : xL} {P : xPost} {M : Nat} (hM : xModel sh R M) {V : xV} (h : MDV I M V) (v6 : V 8 0 ≤ 6) {c cs s : Nat} {x : Int32} {t : Nat → Nat} (ht : ∀ j, j < V 8 0 → I (M + 24) j = nI (t j)) (K : ∀ J : xI, (∀ j, j < V 8 0 → J (M + 25) j = nI (t j)) → (∀ a, a ≠ M + 25 → J a = I a) → X T zX10_seats 3 0 0 P 239 [(0, .ref M), (1, .int x), (2, .int (nI cs)), (3, .int (nI s)), (4, .int (nI (c)))] [] (n, sh, 0, 0) J R L)  : ∀ (w i : Nat), i + w = V 8 0 → ∀ (J : xI), (∀ j, j < i → J (M + 25) j = nI (t j)) → (∀ a, a ≠ M + 25 → J a = I a) → X T zX10_seats 3 0 0 P 210 [(0, .ref M), (1, .int x), (2, .int (nI cs)), (3, .int (nI s)), (4, .int (nI c)), (7, .int (nI s)), (8, .int (nI i))] [] (n, sh, 0, 0) (J) R L := by
  intro w
  induction w with
  | zero =>
    intro i hw J hd fj
    have hz : i = V 8 0 := by omega
    refine x_iload (pc := 210) dX10_seats_210 rfl ?_
    refine x_aload_n (pc := 212) dX10_seats_212 rfl rfl ?_
    refine x_get (pc := 213) dX10_seats_213 kf_RX10_7 hM.s rfl ?_
    rw [show J M 0 = nI (V 8 0) from (congrFun (fj M (by omega)) 0).trans h.1]
    refine x_icmpn_ge_t (pc := 216) (tgt := 239) (a := i) (b := (V 8 0)) dX10_seats_216 (by decide) (by omega) (by omega) (by omega) ?_
    exact X.keep [0, 1, 2, 3, 4] rfl (K J (fun j hj => hd j (by omega)) fj)
  | succ w ih =>
    intro i hw J hd fj
    have hi : i < V 8 0 := by omega
    refine x_iload (pc := 210) dX10_seats_210 rfl ?_
    refine x_aload_n (pc := 212) dX10_seats_212 rfl rfl ?_
    refine x_get (pc := 213) dX10_seats_213 kf_RX10_7 hM.s rfl ?_
    rw [show J M 0 = nI (V 8 0) from (congrFun (fj M (by omega)) 0).trans h.1]
    refine x_icmpn_ge_f (pc := 216) (tgt := 239) (a := i) (b := (V 8 0)) dX10_seats_216 (by decide) (by omega) (by omega) (by omega) ?_
    refine x_aload_n (pc := 219) dX10_seats_219 rfl rfl ?_
    refine x_getr (pc := 220) dX10_seats_220 kf_RX10_147 hM.s rfl hM.f24 ?_
    refine x_iload (pc := 223) dX10_seats_223 rfl ?_
    refine x_aload_n (pc := 225) dX10_seats_225 rfl rfl ?_
    refine x_getr (pc := 226) dX10_seats_226 kf_RX10_144 hM.s rfl hM.f23 ?_
    refine x_iload (pc := 229) dX10_seats_229 rfl ?_
    refine x_ialdn (pc := 231) (a := i) dX10_seats_231 hM.s23 (by omega) (by omega) ?_
    rw [show J (M + 24) i = nI (t i) from (congrFun (fj (M + 24) (by omega)) i).trans (ht i hi)]
    refine x_iastn (pc := 232) (a := i) dX10_seats_232 hM.s24 (by omega) (by omega) ?_
    refine x_iinc (pc := 233) (v := nI (i + 1)) (lv' := [(0, .ref M), (1, .int x), (2, .int (nI cs)), (3, .int (nI s)), (4, .int (nI c)), (7, .int (nI s)), (8, .int (nI (i + 1)))]) dX10_seats_233 rfl (nI_1 _) (by decide) rfl ?_
    refine x_goto (pc := 236) (tgt := 210) dX10_seats_236 (by decide) ?_
    refine ih (i + 1) (by omega) _ (fun j hj => ?_) (fun a p => (up2_row p).trans (fj a p))
    rcases Nat.lt_succ_iff_lt_or_eq.mp hj with z | z
    · rw [up2_k (by omega)]
      exact hd j z
    · rw [z, up2_s]

set_option maxHeartbeats 4000000 in
set_option maxRecDepth 100000 in
theorem lm_se174n {T : xT} {n : Nat} {sh : Nat → Nat × Nat} {I : xI} {R : xR} {L : xL} {P : xPost} {M : Nat} (hM : xModel sh R M) {V : xV} {B : Nat} (h : MDV I M V) (hv : VOK V B) {c cs s : Nat} {x : Int32} (hs : s < 1000) {t : Nat → Nat} (ht : ∀ j, j < V 8 0 → t j < V 8 0 ∧ I (M + 24) j = nI (t j)) (K : ∀ J : xI, (∀ j, j < V 8 0 → J (M + 25) j = nI (t j)) → (∀ a, a ≠ M + 25 → J a = I a) → X T zX10_seats 3 0 0 P 239 [(0, .ref M), (1, .int x), (2, .int (nI cs)), (3, .int (nI s)), (4, .int (nI (c)))] [] (n, sh, 0, 0) J R L)  :  X T zX10_seats 3 0 0 P 174 [(0, .ref M), (1, .int x), (2, .int (nI cs)), (3, .int (-1)), (4, .int (nI c)), (7, .int (nI s))] [] (n, sh, 0, 0) (I) R L := by
  obtain ⟨v6, v12, v10, vb, vf, vw, vm, vta, vte, vod, vrg, vdi⟩ := id hv
  refine x_iload_n (pc := 174) dX10_seats_174 rfl rfl ?_
  refine x_if_lt_t (pc := 175) (tgt := 204) dX10_seats_175 (by decide) (by decide) ?_
  refine x_iload (pc := 204) dX10_seats_204 rfl ?_
  refine x_istore_n (pc := 206) (lv' := [(0, .ref M), (1, .int x), (2, .int (nI cs)), (3, .int (nI s)), (4, .int (nI c)), (7, .int (nI s))]) dX10_seats_206 rfl (by decide) rfl ?_
  refine x_iconst (pc := 207) (v := 0) dX10_seats_207 (by decide) ?_
  refine x_istore (pc := 208) (lv' := [(0, .ref M), (1, .int x), (2, .int (nI cs)), (3, .int (nI s)), (4, .int (nI c)), (7, .int (nI s)), (8, .int 0)]) dX10_seats_208 (by decide) rfl ?_
  exact X.keep [0, 1, 2, 3, 4, 7, 8] rfl (lm_seD hM h v6 (t := t) (fun j hj => (ht j hj).2) K (V 8 0) 0 (by omega) I (fun j hj => absurd hj (by omega)) (fun _ _ => rfl))

set_option maxHeartbeats 4000000 in
set_option maxRecDepth 100000 in
theorem lm_se174s {T : xT} {n : Nat} {sh : Nat → Nat × Nat} {I : xI} {R : xR} {L : xL} {P : xPost} {M : Nat} (hM : xModel sh R M) {V : xV} {B : Nat} (h : MDV I M V) (hv : VOK V B) {c cs s : Nat} {x : Int32} (hs : s < 1000) {t : Nat → Nat} (ht : ∀ j, j < V 8 0 → t j < V 8 0 ∧ I (M + 24) j = nI (t j)) {r1 : Nat} (hr1 : r1 < 1000) {ci : Nat → Nat} (hc : ∀ j, j < V 8 0 → ci j < V 8 0 ∧ I (M + 25) j = nI (ci j)) (K1 : s < r1 ∨ (s = r1 ∧ vl (fun j => V 3 (t j)) (V 8 0) < vl (fun j => V 3 (ci j)) (V 8 0)) → ∀ J : xI, (∀ j, j < V 8 0 → J (M + 25) j = nI (t j)) → (∀ a, a ≠ M + 25 → J a = I a) → X T zX10_seats 3 0 0 P 239 [(0, .ref M), (1, .int x), (2, .int (nI cs)), (3, .int (nI s)), (4, .int (nI (c)))] [] (n, sh, 0, 0) J R L) (K2 : r1 < s ∨ (r1 = s ∧ vl (fun j => V 3 (ci j)) (V 8 0) ≤ vl (fun j => V 3 (t j)) (V 8 0)) → X T zX10_seats 3 0 0 P 239 [(0, .ref M), (1, .int x), (2, .int (nI cs)), (3, .int (nI r1)), (4, .int (nI (c)))] [] (n, sh, 0, 0) I R L)  :  X T zX10_seats 3 0 0 P 174 [(0, .ref M), (1, .int x), (2, .int (nI cs)), (3, .int (nI r1)), (4, .int (nI c)), (7, .int (nI s))] [] (n, sh, 0, 0) (I) R L := by
  obtain ⟨v6, v12, v10, vb, vf, vw, vm, vta, vte, vod, vrg, vdi⟩ := id hv
  refine x_iload_n (pc := 174) dX10_seats_174 rfl rfl ?_
  refine x_ifn_lt (pc := 175) (a := r1) dX10_seats_175 ⟨204, by decide⟩ (by omega) ?_
  refine x_iload (pc := 178) dX10_seats_178 rfl ?_
  refine x_iload_n (pc := 180) dX10_seats_180 rfl rfl ?_
  refine x_icmpn_gt (pc := 181) (tgt := 239) (a := s) (b := r1) dX10_seats_181 (by decide) (by omega) (by omega) (fun c181 => ?_) (fun c181 => ?_)
  · skip
    first
    | exact X.keep [0, 1, 2, 3, 4] rfl (K2 (Or.inl (by omega)))
    | exact X.keep [0, 1, 2, 3, 4] rfl (K2 (Or.inr ⟨by omega, ha⟩))
  · skip
    refine x_iload (pc := 184) dX10_seats_184 rfl ?_
    refine x_iload_n (pc := 186) dX10_seats_186 rfl rfl ?_
    refine x_icmpn_ne (pc := 187) (tgt := 204) (a := s) (b := r1) dX10_seats_187 (by decide) (by omega) (by omega) (fun c187 => ?_) (fun c187 => ?_)
    · skip
      refine x_iload (pc := 204) dX10_seats_204 rfl ?_
      refine x_istore_n (pc := 206) (lv' := [(0, .ref M), (1, .int x), (2, .int (nI cs)), (3, .int (nI s)), (4, .int (nI c)), (7, .int (nI s))]) dX10_seats_206 rfl (by decide) rfl ?_
      refine x_iconst (pc := 207) (v := 0) dX10_seats_207 (by decide) ?_
      refine x_istore (pc := 208) (lv' := [(0, .ref M), (1, .int x), (2, .int (nI cs)), (3, .int (nI s)), (4, .int (nI c)), (7, .int (nI s)), (8, .int 0)]) dX10_seats_208 (by decide) rfl ?_
      first
      | exact X.keep [0, 1, 2, 3, 4, 7, 8] rfl (lm_seD hM h v6 (t := t) (fun j hj => (ht j hj).2) (K1 (Or.inl (by omega))) (V 8 0) 0 (by omega) I (fun j hj => absurd hj (by omega)) (fun _ _ => rfl))
      | exact X.keep [0, 1, 2, 3, 4, 7, 8] rfl (lm_seD hM h v6 (t := t) (fun j hj => (ht j hj).2) (K1 (Or.inr ⟨by omega, ha⟩)) (V 8 0) 0 (by omega) I (fun j hj => absurd hj (by omega)) (fun _ _ => rfl))
    · skip
      refine x_aload_n (pc := 190) dX10_seats_190 rfl rfl ?_
      refine x_aload_n (pc := 191) dX10_seats_191 rfl rfl ?_
      refine x_get (pc := 192) dX10_seats_192 kf_RX10_7 hM.s rfl ?_
      rw [h.1]
      refine x_callV (pc := 195) (As := [.int _]) dX10_seats_195 km_X10_isAhead kv_X10_isAhead kl_RX10_365 hM.s rfl rfl (by decide) ⟨Nat.le_refl _, Nat.le_refl _⟩ rfl (Nat.le_of_ble_eq_true rfl) (Nat.le_of_ble_eq_true rfl) (m_isAhead (t := t) (ci := ci) hM h hv ht hc (fun ha => ⟨rfl, rfl, ?_⟩) (fun ha => ⟨rfl, rfl, ?_⟩))
      · skip
        refine x_if_ne_t (pc := 198) (tgt := 204) dX10_seats_198 (by decide) (by decide) ?_
        refine x_iload (pc := 204) dX10_seats_204 rfl ?_
        refine x_istore_n (pc := 206) (lv' := [(0, .ref M), (1, .int x), (2, .int (nI cs)), (3, .int (nI s)), (4, .int (nI c)), (7, .int (nI s))]) dX10_seats_206 rfl (by decide) rfl ?_
        refine x_iconst (pc := 207) (v := 0) dX10_seats_207 (by decide) ?_
        refine x_istore (pc := 208) (lv' := [(0, .ref M), (1, .int x), (2, .int (nI cs)), (3, .int (nI s)), (4, .int (nI c)), (7, .int (nI s)), (8, .int 0)]) dX10_seats_208 (by decide) rfl ?_
        first
        | exact X.keep [0, 1, 2, 3, 4, 7, 8] rfl (lm_seD hM h v6 (t := t) (fun j hj => (ht j hj).2) (K1 (Or.inl (by omega))) (V 8 0) 0 (by omega) I (fun j hj => absurd hj (by omega)) (fun _ _ => rfl))
        | exact X.keep [0, 1, 2, 3, 4, 7, 8] rfl (lm_seD hM h v6 (t := t) (fun j hj => (ht j hj).2) (K1 (Or.inr ⟨by omega, ha⟩)) (V 8 0) 0 (by omega) I (fun j hj => absurd hj (by omega)) (fun _ _ => rfl))
      · skip
        refine x_if_ne_f (pc := 198) (tgt := 204) dX10_seats_198 (by decide) (by decide) ?_
        refine x_goto (pc := 201) (tgt := 239) dX10_seats_201 (by decide) ?_
        first
        | exact X.keep [0, 1, 2, 3, 4] rfl (K2 (Or.inl (by omega)))
        | exact X.keep [0, 1, 2, 3, 4] rfl (K2 (Or.inr ⟨by omega, ha⟩))

