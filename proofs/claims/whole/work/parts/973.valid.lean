/-! ===== what alters how all is keeps it well formed ===== -/
theorem idx_i {n k : Nat} {x : Int32} (hn : n < 2 ^ 31) (h : idx n x = some k) : k < n ∧ x = nI k := by
  unfold idx at h
  by_cases z : x < 0 ∨ nI n ≤ x
  · rw [if_pos z] at h
    cases h
  · rw [if_neg z] at h
    obtain ⟨j, hj, rfl⟩ := nI_of (fun q => z (Or.inl q))
    rw [nI_clamp hj] at h
    cases h
    exact ⟨Nat.lt_of_not_le fun q => z (Or.inr ((nI_leI hn hj).mpr q)), rfl⟩
theorem VOK.mono {V : xV} {B B' : Nat} (h : VOK V B) (hb : B ≤ B') : VOK V B' := by
  obtain ⟨v6, v12, v10, vb, vf, vw, vm, vta, vte, vod, vrg, vdi⟩ := h
  exact ⟨v6, v12, v10, vb, vf, vw, vm, vta, Nat.le_trans vte hb, vod, vrg, vdi⟩
theorem VOK.s1 {V : xV} {B c : Nat} (h : VOK V B) (hc : c < 36) : VOK (up2 V 8 1 c) B := by
  obtain ⟨v6, v12, v10, vb, vf, vw, vm, vta, vte, vod, vrg, vdi⟩ := h
  have r : ∀ j, j ≠ 8 → up2 V 8 1 c j = V j := fun j hj => up2_row hj
  have k : ∀ j, j ≠ 1 → up2 V 8 1 c 8 j = V 8 j := fun j hj => up2_k hj
  unfold VOK
  rw [r 0 (by decide), r 1 (by decide), r 2 (by decide), r 3 (by decide), r 4 (by decide), r 5 (by decide), r 6 (by decide), r 7 (by decide), k 0 (by decide), k 2 (by decide), k 3 (by decide), k 4 (by decide), k 5 (by decide), k 6 (by decide), up2_s]
  exact ⟨v6, v12, v10, vb, vf, vw, vm, hc, vte, vod, vrg, vdi⟩
theorem VOK.s3 {V : xV} {B c : Nat} (h : VOK V B) (hc : c ≤ 10) : VOK (up2 V 8 3 c) B := by
  obtain ⟨v6, v12, v10, vb, vf, vw, vm, vta, vte, vod, vrg, vdi⟩ := h
  have r : ∀ j, j ≠ 8 → up2 V 8 3 c j = V j := fun j hj => up2_row hj
  have k : ∀ j, j ≠ 3 → up2 V 8 3 c 8 j = V 8 j := fun j hj => up2_k hj
  unfold VOK
  rw [r 0 (by decide), r 1 (by decide), r 2 (by decide), r 3 (by decide), r 4 (by decide), r 5 (by decide), r 6 (by decide), r 7 (by decide), k 0 (by decide), k 1 (by decide), k 2 (by decide), k 4 (by decide), k 5 (by decide), k 6 (by decide), up2_s]
  exact ⟨v6, v12, v10, vb, vf, vw, vm, vta, vte, hc, vrg, vdi⟩
theorem VOK.s6 {V : xV} {B c : Nat} (h : VOK V B) (hc : c ≤ 6) : VOK (up2 V 8 6 c) B := by
  obtain ⟨v6, v12, v10, vb, vf, vw, vm, vta, vte, vod, vrg, vdi⟩ := h
  have r : ∀ j, j ≠ 8 → up2 V 8 6 c j = V j := fun j hj => up2_row hj
  have k : ∀ j, j ≠ 6 → up2 V 8 6 c 8 j = V 8 j := fun j hj => up2_k hj
  unfold VOK
  rw [r 0 (by decide), r 1 (by decide), r 2 (by decide), r 3 (by decide), r 4 (by decide), r 5 (by decide), r 6 (by decide), r 7 (by decide), k 0 (by decide), k 1 (by decide), k 2 (by decide), k 3 (by decide), k 4 (by decide), k 5 (by decide), up2_s]
  exact ⟨v6, v12, v10, vb, vf, vw, vm, vta, vte, vod, hc, vdi⟩
theorem VOK.s4 {V : xV} {B m : Nat} (h : VOK V B) (hm : m ≤ V 8 4) : VOK (up2 V 8 4 m) B := by
  obtain ⟨v6, v12, v10, vb, vf, vw, vm, vta, vte, vod, vrg, vdi⟩ := h
  have r : ∀ j, j ≠ 8 → up2 V 8 4 m j = V j := fun j hj => up2_row hj
  have k : ∀ j, j ≠ 4 → up2 V 8 4 m 8 j = V 8 j := fun j hj => up2_k hj
  unfold VOK
  rw [r 0 (by decide), r 1 (by decide), r 2 (by decide), r 3 (by decide), r 4 (by decide), r 5 (by decide), r 6 (by decide), r 7 (by decide), k 0 (by decide), k 1 (by decide), k 2 (by decide), k 3 (by decide), k 5 (by decide), k 6 (by decide), up2_s]
  exact ⟨v6, by omega, v10, vb, vf, fun i hi => vw i (by omega), vm, vta, vte, vod, vrg, vdi⟩
theorem VOK.s5 {V : xV} {B m : Nat} (h : VOK V B) (hm : m ≤ V 8 5) : VOK (up2 V 8 5 m) B := by
  obtain ⟨v6, v12, v10, vb, vf, vw, vm, vta, vte, vod, vrg, vdi⟩ := h
  have r : ∀ j, j ≠ 8 → up2 V 8 5 m j = V j := fun j hj => up2_row hj
  have k : ∀ j, j ≠ 5 → up2 V 8 5 m 8 j = V 8 j := fun j hj => up2_k hj
  unfold VOK
  rw [r 0 (by decide), r 1 (by decide), r 2 (by decide), r 3 (by decide), r 4 (by decide), r 5 (by decide), r 6 (by decide), r 7 (by decide), k 0 (by decide), k 1 (by decide), k 2 (by decide), k 3 (by decide), k 4 (by decide), k 6 (by decide), up2_s]
  exact ⟨v6, v12, by omega, vb, vf, vw, fun i hi => vm i (by omega), vta, vte, vod, vrg, vdi⟩
theorem VOK.g4 {V : xV} {B c : Nat} (h : VOK V B) (hm : V 8 4 < 12) (hc : c < 36) : VOK (up2 (up2 V 6 (V 8 4) c) 8 4 (V 8 4 + 1)) B := by
  obtain ⟨v6, v12, v10, vb, vf, vw, vm, vta, vte, vod, vrg, vdi⟩ := h
  have r : ∀ j, j ≠ 8 → j ≠ 6 → up2 (up2 V 6 (V 8 4) c) 8 4 (V 8 4 + 1) j = V j := fun j hj hk => (up2_row hj).trans (up2_row hk)
  have k : ∀ j, j ≠ 4 → up2 (up2 V 6 (V 8 4) c) 8 4 (V 8 4 + 1) 8 j = V 8 j := fun j hj => (up2_k hj).trans (congrFun (up2_row (by decide)) j)
  have e6 : up2 (up2 V 6 (V 8 4) c) 8 4 (V 8 4 + 1) 6 = up2 V 6 (V 8 4) c 6 := up2_row (by decide)
  unfold VOK
  rw [r 0 (by decide) (by decide), r 1 (by decide) (by decide), r 2 (by decide) (by decide), r 3 (by decide) (by decide), r 4 (by decide) (by decide), r 5 (by decide) (by decide), r 7 (by decide) (by decide), k 0 (by decide), k 1 (by decide), k 2 (by decide), k 3 (by decide), k 5 (by decide), k 6 (by decide), up2_s, e6]
  refine ⟨v6, by omega, v10, vb, vf, fun i hi => ?_, vm, vta, vte, vod, vrg, vdi⟩
  by_cases e : i = V 8 4
  · rw [e, up2_s]
    exact hc
  · rw [up2_k e]
    exact vw i (by omega)
theorem VOK.g5 {V : xV} {B c : Nat} (h : VOK V B) (hm : V 8 5 < 10) (hc : c < 36) : VOK (up2 (up2 V 7 (V 8 5) c) 8 5 (V 8 5 + 1)) B := by
  obtain ⟨v6, v12, v10, vb, vf, vw, vm, vta, vte, vod, vrg, vdi⟩ := h
  have r : ∀ j, j ≠ 8 → j ≠ 7 → up2 (up2 V 7 (V 8 5) c) 8 5 (V 8 5 + 1) j = V j := fun j hj hk => (up2_row hj).trans (up2_row hk)
  have k : ∀ j, j ≠ 5 → up2 (up2 V 7 (V 8 5) c) 8 5 (V 8 5 + 1) 8 j = V 8 j := fun j hj => (up2_k hj).trans (congrFun (up2_row (by decide)) j)
  have e6 : up2 (up2 V 7 (V 8 5) c) 8 5 (V 8 5 + 1) 7 = up2 V 7 (V 8 5) c 7 := up2_row (by decide)
  unfold VOK
  rw [r 0 (by decide) (by decide), r 1 (by decide) (by decide), r 2 (by decide) (by decide), r 3 (by decide) (by decide), r 4 (by decide) (by decide), r 5 (by decide) (by decide), r 6 (by decide) (by decide), k 0 (by decide), k 1 (by decide), k 2 (by decide), k 3 (by decide), k 4 (by decide), k 6 (by decide), up2_s, e6]
  refine ⟨v6, v12, by omega, vb, vf, vw, fun i hi => ?_, vta, vte, vod, vrg, vdi⟩
  by_cases e : i = V 8 5
  · rw [e, up2_s]
    exact hc
  · rw [up2_k e]
    exact vm i (by omega)
/-- what the law's loop knows of a scene -/
def SOKV (V : xV) (B rc : Nat) : Prop := VOK V B ∧ VSY V ∧ V 8 6 ≤ rc
theorem VSY.of {V V' : xV} (h : VSY V) (e0 : V' 8 0 = V 8 0) (e5 : V' 5 = V 5) : VSY V' := fun i j hi hj => by
  rw [e0] at hi hj
  rw [e5]
  exact h i j hi hj
theorem VSY.u8 {V : xV} {s x : Nat} (h : VSY V) (hs : 0 ≠ s) : VSY (up2 V 8 s x) := h.of (V' := up2 V 8 s x) (up2_k hs) (up2_row (show (5 : Nat) ≠ 8 by decide))
theorem VSY.ur {V : xV} {j m x : Nat} (h : VSY V) (h8 : 8 ≠ j) (h5 : 5 ≠ j) : VSY (up2 V j m x) := h.of (V' := up2 V j m x) (congrFun (up2_row h8) 0) (up2_row h5)
theorem SOKV.tamer {V : xV} {B rc : Nat} {x : Int32} (h : SOKV V B rc) : SOKV (spTamer V x).2 B rc := by
  unfold spTamer
  cases e : idx 36 x with
  | none => exact h
  | some c =>
    show SOKV (if held (V 8 0) (V 2) c = true then (-3, V) else (nI (V 8 1), up2 V 8 1 c)).2 B rc
    by_cases z : held (V 8 0) (V 2) c = true
    · rw [if_pos z]
      exact h
    · rw [if_neg z]
      exact ⟨h.1.s1 (idx_i (by decide) e).1, h.2.1.u8 (by decide), by show up2 V 8 1 c 8 6 ≤ rc; rw [up2_k (by decide)]; exact h.2.2⟩
theorem SOKV.thunder {V : xV} {B rc : Nat} {x : Int32} (h : SOKV V B rc) : SOKV (spThunder V x).2 B rc := by
  unfold spThunder
  cases e : idx 11 x with
  | none => exact h
  | some c =>
    have := (idx_i (by decide) e).1
    exact ⟨h.1.s3 (by omega), h.2.1.u8 (by decide), by show up2 V 8 3 c 8 6 ≤ rc; rw [up2_k (by decide)]; exact h.2.2⟩
theorem SOKV.walk {V : xV} {B rc : Nat} {x : Int32} (h : SOKV V B rc) : SOKV (spCome V 6 12 x).2 B rc := by
  unfold spCome
  by_cases z : x = -1
  · rw [if_pos z]
    exact ⟨h.1.s4 (Nat.zero_le _), h.2.1.u8 (by decide), by show up2 V 8 4 0 8 6 ≤ rc; rw [up2_k (by decide)]; exact h.2.2⟩
  · rw [if_neg z]
    cases e : idx 36 x with
    | none => exact h
    | some c =>
      show SOKV (if V 8 4 < 12 then (nI (V 8 4 + 1), up2 (up2 V 6 (V 8 4) c) 8 4 (V 8 4 + 1)) else (-4, V)).2 B rc
      by_cases y : V 8 4 < 12
      · rw [if_pos y]
        exact ⟨h.1.g4 y (idx_i (by decide) e).1, (h.2.1.ur (by decide) (by decide)).u8 (by decide), by show up2 (up2 V 6 (V 8 4) c) 8 4 (V 8 4 + 1) 8 6 ≤ rc; rw [up2_k (by decide), up2_row (by decide)]; exact h.2.2⟩
      · rw [if_neg y]
        exact h
theorem SOKV.film {V : xV} {B rc : Nat} {x : Int32} (h : SOKV V B rc) : SOKV (spCome V 7 10 x).2 B rc := by
  unfold spCome
  by_cases z : x = -1
  · rw [if_pos z]
    exact ⟨h.1.s5 (Nat.zero_le _), h.2.1.u8 (by decide), by show up2 V 8 5 0 8 6 ≤ rc; rw [up2_k (by decide)]; exact h.2.2⟩
  · rw [if_neg z]
    cases e : idx 36 x with
    | none => exact h
    | some c =>
      show SOKV (if V 8 5 < 10 then (nI (V 8 5 + 1), up2 (up2 V 7 (V 8 5) c) 8 5 (V 8 5 + 1)) else (-4, V)).2 B rc
      by_cases y : V 8 5 < 10
      · rw [if_pos y]
        exact ⟨h.1.g5 y (idx_i (by decide) e).1, (h.2.1.ur (by decide) (by decide)).u8 (by decide), by show up2 (up2 V 7 (V 8 5) c) 8 5 (V 8 5 + 1) 8 6 ≤ rc; rw [up2_k (by decide), up2_row (by decide)]; exact h.2.2⟩
      · rw [if_neg y]
        exact h
theorem SOKV.set {V : xV} {B rc : Nat} {x y z : Int32} (h : SOKV V B rc) : SOKV (spSet V x y z).2 B rc := by
  have h6 := h.1.1
  unfold spSet
  cases e : idx (V 8 0) x with
  | none => exact h
  | some b =>
    show SOKV (if y = 0 then (match idx 36 z with
    | none => (-2, V)
    | some c => if stHeld V b c = true then (-3, V) else (nI (V 3 b), up2 V 3 b c)) else if y = 1 then (match idx 10 z with
    | none => (-2, V)
    | some c => (nI (V 4 b), up2 V 4 b c)) else (-1, V)).2 B rc
    by_cases y0 : y = 0
    · rw [if_pos y0]
      cases e2 : idx 36 z with
      | none => exact h
      | some c =>
        show SOKV (if stHeld V b c = true then (-3, V) else (nI (V 3 b), up2 V 3 b c)).2 B rc
        cases e3 : stHeld V b c with
        | true =>
          rw [if_pos rfl]
          exact h
        | false =>
          rw [if_neg (by decide)]
          exact ⟨h.1.set3 (idx_i (by decide) e2).1 e3, h.2.1.ur (by decide) (by decide), by show up2 V 3 b c 8 6 ≤ rc; rw [up2_row (by decide)]; exact h.2.2⟩
    · rw [if_neg y0]
      by_cases y1 : y = 1
      · rw [if_pos y1]
        cases e2 : idx 10 z with
        | none => exact h
        | some c => exact ⟨h.1.set4 (idx_i (by decide) e2).1, h.2.1.ur (by decide) (by decide), by show up2 V 4 b c 8 6 ≤ rc; rw [up2_row (by decide)]; exact h.2.2⟩
      · rw [if_neg y1]
        exact h
theorem SOKV.enem {V : xV} {B rc : Nat} {x y : Int32} {z : Bool} (h : SOKV V B rc) : SOKV (spEnem V x y z).2 B rc := by
  have h6 := h.1.1
  unfold spEnem
  cases e : idx (V 8 0) x with
  | none => exact h
  | some a =>
    cases e2 : idx (V 8 0) y with
    | none => exact h
    | some b =>
      show SOKV (if a = b then (-2, V) else (nI (bget (V 5 a) b), enV V a b z)).2 B rc
      by_cases q : a = b
      · rw [if_pos q]
        exact h
      · rw [if_neg q]
        have ha := (idx_i (by omega) e).1
        have hb := (idx_i (by omega) e2).1
        refine ⟨h.1.oE ha hb, VSY.oE h.1 h.2.1 ha hb q, ?_⟩
        have e8 : enV V a b z 8 = V 8 := (up2_row (by decide)).trans (up2_row (by decide))
        show enV V a b z 8 6 ≤ rc
        rw [e8]
        exact h.2.2
theorem SOKV.beast {V : xV} {B rc : Nat} {x y z w : Int32} (h : SOKV V B rc) : SOKV (spBeast V x y z w).2 B rc := by
  unfold spBeast
  cases e1 : idx 7 x with
  | none => exact h
  | some k =>
    cases e2 : idx 36 z with
    | none => exact h
    | some c =>
      cases e3 : idx 10 y with
      | none => exact h
      | some v =>
        cases e4 : idx 10 w with
        | none => exact h
        | some hh =>
          show SOKV (if held (V 8 0) (V 2) c = true ∨ V 8 1 = c ∨ held (V 8 0) (V 3) c = true then (-3, V) else if V 8 0 < 6 then (nI (V 8 0), beV V k v c hh) else (-4, V)).2 B rc
          by_cases q : held (V 8 0) (V 2) c = true ∨ V 8 1 = c ∨ held (V 8 0) (V 3) c = true
          · rw [if_pos q]
            exact h
          · rw [if_neg q]
            by_cases q6 : V 8 0 < 6
            · rw [if_pos q6]
              have h3 : held (V 8 0) (V 3) c = false := by
                cases e5 : held (V 8 0) (V 3) c with
                | false => rfl
                | true => exact absurd (Or.inr (Or.inr e5)) q
              refine ⟨VOK.oB h.1 q6 (idx_i (by decide) e1).1 (idx_i (by decide) e3).1 (idx_i (by decide) e2).1 (idx_i (by decide) e4).1 h3, VSY.oB h.1 h.2.1 q6, ?_⟩
              have e8 : beV V k v c hh 8 6 = V 8 6 := by
                unfold beV
                rw [if_neg (by omega), if_neg (by omega)]
              show beV V k v c hh 8 6 ≤ rc
              rw [e8]
              exact h.2.2
            · rw [if_neg q6]
              exact h
theorem SOKV.mono {V : xV} {B B' rc : Nat} (h : SOKV V B rc) (hb : B ≤ B') : SOKV V B' rc := ⟨h.1.mono hb, h.2.1, h.2.2⟩
theorem SOKV.go {V : xV} {B rc : Nat} {o : Option xAR} {x : Int32} (h : SOKV V B rc) : SOKV (spGo V o x).2 (B + 60) rc := by
  unfold spGo
  by_cases z : x < 1 ∨ 60 < x
  · rw [if_pos z]
    exact h.mono (by omega)
  · rw [if_neg z]
    have hx : x.toNatClampNeg ≤ 60 := by
      obtain ⟨k, hk, rfl⟩ := nI_of (x := x) (fun q => z (Or.inl (by
        rw [Int32.lt_iff_toInt_lt] at q ⊢
        have q : x.toInt < 0 := q
        show x.toInt < 1
        omega)))
      rw [nI_clamp hk]
      refine Nat.le_of_not_lt (fun q => z (Or.inr ?_))
      rw [Int32.lt_iff_toInt_lt, nI_toInt hk]
      show (60 : Int) < k
      omega
    have hs := @stp_le V o x.toNatClampNeg
    have hte := h.1.2.2.2.2.2.2.2.2.1
    have hc : ∀ i, i < V 8 0 → V 2 i < 36 := fun i hi => (h.1.2.2.2.1 i hi).2.2.1
    refine ⟨h.1.go (goF_lt hc _) (by omega), h.2.1.of (V' := setCT V _ _) (setCT_8 (show (0 : Nat) ≠ 2 by decide)) (setCT_o (show (5 : Nat) ≠ 2 by decide) (show (5 : Nat) ≠ 8 by decide)), ?_⟩
    exact Nat.le_trans (Nat.le_of_eq (setCT_8 (V := V) (ce := goF V o (V 8 1) (stp V o x.toNatClampNeg)) (te := V 8 2 + stp V o x.toNatClampNeg) (show (6 : Nat) ≠ 2 by decide))) h.2.2
theorem SOKV.ring {V : xV} {B rc : Nat} (h : SOKV V B rc) (h6 : rc < 6) : SOKV (up2 V 8 6 (rc + 1)) B (rc + 1) := ⟨h.1.s6 (by omega), h.2.1.u8 (by decide), by rw [up2_s]; exact Nat.le_refl _⟩
theorem SOKV.rc1 {V : xV} {B rc : Nat} (h : SOKV V B rc) : SOKV V B (rc + 1) := ⟨h.1, h.2.1, Nat.le_succ_of_le h.2.2⟩
theorem TOK.tape {W : xW} {x s n : Int32} (h : TOK W) : TOK (spTape W x s n).2 := by
  unfold spTape
  cases e : idx 6 x with
  | none => exact h
  | some t =>
    dsimp only
    by_cases z : s = -1
    · rw [if_pos z]
      exact h.set ⟨Nat.zero_le _, Or.inl ⟨rfl, rfl⟩⟩
    · rw [if_neg z]
      cases e2 : idx 5 s with
      | none => exact h
      | some k =>
        dsimp only
        by_cases y : 60 < n
        · rw [if_pos y]
          exact h
        · rw [if_neg y]
          by_cases y2 : n < 0
          · rw [if_pos y2]
            exact h
          · rw [if_neg y2]
            obtain ⟨m, hm, rfl⟩ := nI_of y2
            refine h.set ⟨?_, Or.inr ⟨k, (idx_i (by decide) e2).1, rfl⟩⟩
            show (nI m).toNatClampNeg ≤ 60
            rw [nI_clamp hm]
            refine Nat.le_of_not_lt (fun q => y ?_)
            rw [Int32.lt_iff_toInt_lt, nI_toInt hm]
            show (60 : Int) < m
            omega
theorem TOK.item {W : xW} {x y : Int32} {v : Int64} (h : TOK W) : TOK (spItem W x y v).2 := by
  unfold spItem
  cases e : idx 6 x with
  | none => exact h
  | some t =>
    dsimp only
    by_cases z : (W t).1 = -1
    · rw [if_pos z]
      exact h
    · rw [if_neg z]
      cases e2 : idx (W t).2.1 y with
      | none => exact h
      | some i => exact h.set (h t (idx_i (by decide) e).1)
theorem TOK.shift {W : xW} {x i y j n : Int32} (h : TOK W) : TOK (spShift W x i y j n).2 := by
  unfold spShift
  cases e : idx 6 x with
  | none => exact h
  | some s =>
    cases e2 : idx 6 y with
    | none => exact h
    | some g =>
      show TOK (if (W s).1 = -1 ∨ (W g).1 = -1 then (-11, W) else if (W s).1 = (W g).1 then (match part (W s).2.1 i n with
      | none => (-13, W)
      | some p => match part (W g).2.1 j n with
        | none => (-13, W)
        | some q => (n, shW W s g p.1 q.1 p.2)) else (-12, W)).2
      by_cases z : (W s).1 = -1 ∨ (W g).1 = -1
      · rw [if_pos z]
        exact h
      · rw [if_neg z]
        by_cases y2 : (W s).1 = (W g).1
        · rw [if_pos y2]
          cases part (W s).2.1 i n with
          | none => exact h
          | some p =>
            cases part (W g).2.1 j n with
            | none => exact h
            | some q => exact h.set (h g (idx_i (by decide) e2).1)
        · rw [if_neg y2]
          exact h
theorem spAct_le {V : xV} {B : Nat} {x y z : Int32} (h : VOK V B) : (spAct V x y z).2.length ≤ 20 := by
  unfold spAct
  cases e : idx (V 8 0) x with
  | none => exact Nat.zero_le _
  | some b =>
    cases e2 : idx 3 y with
    | none => exact Nat.zero_le _
    | some a => exact actL_le _ ((h.2.2.2.1 b (idx_i (by have := h.1; omega) e).1).1) a (idx_i (by decide) e2).1
