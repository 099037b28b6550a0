/-! ===== the text: the reference's signs ===== -/
/-- the signs laid from b on -/
def SGS (I : xI) (M b : Nat) (s : List Int32) : Prop := I M 23 = nI (b + s.length) ∧ ∀ i x, s[i]? = some x → I (M + 13) (b + i) = x
theorem SGS.put {I : xI} {M b : Nat} {s : List Int32} {x : Int32} (h : SGS I M b s) : SGS (up2 (up2 I (M + 13) (b + s.length) x) M 23 (nI (b + s.length + 1))) M b (s ++ [x]) := by
  have hlen : (s ++ [x]).length = s.length + 1 := by rw [List.length_append]; rfl
  refine ⟨by rw [hlen, up2_s]; rfl, fun i y hi => ?_⟩
  have e0 : ∀ j, up2 (up2 I (M + 13) (b + s.length) x) M 23 (nI (b + s.length + 1)) (M + 13) j = up2 I (M + 13) (b + s.length) x (M + 13) j := fun j => congrFun (up2_row (by omega)) j
  by_cases hne : i = s.length
  · subst hne
    rw [List.getElem?_append_right (Nat.le_refl _), Nat.sub_self] at hi
    cases hi
    rw [e0, up2_s]
  · have hlt : i < s.length := by
      have h9 := (List.getElem?_eq_some_iff.mp hi).1
      rw [hlen] at h9
      omega
    rw [List.getElem?_append_left hlt] at hi
    rw [e0, up2_k (by omega)]
    exact h.2 i y hi
theorem SGS.keep {I J : xI} {M b : Nat} {s : List Int32} (h : SGS I M b s) (e : J M 23 = I M 23) (f : J (M + 13) = I (M + 13)) : SGS J M b s := ⟨e.trans h.1, fun i x hi => (congrFun f _).trans (h.2 i x hi)⟩

set_option maxHeartbeats 4000000 in
set_option maxRecDepth 100000 in
theorem m_put {T : xT} {n : Nat} {sh : Nat → Nat × Nat} {I : xI} {R : xR} {L : xL} {P : xPost} {M b : Nat} (hM : xModel sh R M) {s : List Int32} (h : SGS I M b s) (hb : b + s.length < 600) {x : Int32} (K : ∀ J : xI, SGS J M b (s ++ [x]) → (∀ a, a ≠ M → a ≠ M + 13 → J a = I a) → (∀ k, k ≠ 23 → J M k = I M k) → P (n, sh, 0, 0) J R L none) : XM T zX10_put 0 [.ref M, .int x] n sh I R L P := by
  refine x_aload_n (pc := 0) dX10_put_0 rfl rfl ?_
  refine x_getr (pc := 1) dX10_put_1 kf_RX10_74 hM.s rfl hM.f12 ?_
  refine x_aload_n (pc := 4) dX10_put_4 rfl rfl ?_
  refine x_get (pc := 5) dX10_put_5 kf_RX10_80 hM.s rfl ?_
  rw [h.1]
  refine x_iload_n (pc := 8) dX10_put_8 rfl rfl ?_
  refine x_iastn (pc := 9) (a := (b + s.length)) dX10_put_9 hM.s12 (by omega) (by omega) ?_
  refine x_aload_n (pc := 10) dX10_put_10 rfl rfl ?_
  refine x_dup (pc := 11) dX10_put_11 rfl ?_
  refine x_get (pc := 12) dX10_put_12 kf_RX10_80 hM.s rfl ?_
  rw [show up2 I (M + 13) (b + s.length) x M 23 = nI (b + s.length) from (congrFun (up2_row (by omega)) 23).trans h.1]
  refine x_iconst (pc := 15) (v := 1) dX10_put_15 (by decide) ?_
  refine x_iaddn (pc := 16) (a := (b + s.length)) (b := 1) dX10_put_16 ?_
  refine x_put (pc := 17) dX10_put_17 kf_RX10_80 hM.s rfl (Or.inl kb_10_23) ?_
  refine x_return (pc := 20) dX10_put_20 rfl ⟨Nat.le_refl _, Nat.le_refl _⟩ ?_
  exact K _ h.put (fun a p q => (up2_row p).trans (up2_row q)) (fun k hk => (up2_k hk).trans (congrFun (up2_row (by omega)) k))

set_option maxHeartbeats 4000000 in
set_option maxRecDepth 100000 in
theorem m_place {T : xT} {n : Nat} {sh : Nat → Nat × Nat} {I : xI} {R : xR} {L : xL} {P : xPost} {M a : Nat} (ha : a < 257) (K1 : isLt a → P (n, sh, 0, 0) I R L (some (.int (nI (plL a))))) (K0 : ¬ isLt a → P (n, sh, 0, 0) I R L (some (.int (-1)))) : XM T zX10_place 0 [.ref M, .int (nM a)] n sh I R L P := by
  refine x_iload_n (pc := 0) dX10_place_0 rfl rfl ?_
  refine x_lsw (pc := 1) (dt := 62) [(98, 56), (99, 58), (104, 54), (110, 52), (116, 60)] dX10_place_1 (by decide +kernel) (by decide +kernel) (by decide) ?_
  refine xsw_c (fun c1 => ?_) (fun n1_98 => ?_)
  · skip
    refine x_iconst (pc := 56) (v := 2) dX10_place_56 (by decide) ?_
    refine x_ireturn (pc := 57) dX10_place_57 ⟨_, rfl, rfl⟩ ⟨Nat.le_refl _, Nat.le_refl _⟩ ?_
    have ez : a = 98 := (nM_eq ha (show 98 < 128 by decide)).mp c1
    have h9 := K1 (by rw [ez]; decide)
    rw [ez] at h9
    exact h9
  refine xsw_c (fun c1 => ?_) (fun n1_99 => ?_)
  · skip
    refine x_iconst (pc := 58) (v := 3) dX10_place_58 (by decide) ?_
    refine x_ireturn (pc := 59) dX10_place_59 ⟨_, rfl, rfl⟩ ⟨Nat.le_refl _, Nat.le_refl _⟩ ?_
    have ez : a = 99 := (nM_eq ha (show 99 < 128 by decide)).mp c1
    have h9 := K1 (by rw [ez]; decide)
    rw [ez] at h9
    exact h9
  refine xsw_c (fun c1 => ?_) (fun n1_104 => ?_)
  · skip
    refine x_iconst (pc := 54) (v := 1) dX10_place_54 (by decide) ?_
    refine x_ireturn (pc := 55) dX10_place_55 ⟨_, rfl, rfl⟩ ⟨Nat.le_refl _, Nat.le_refl _⟩ ?_
    have ez : a = 104 := (nM_eq ha (show 104 < 128 by decide)).mp c1
    have h9 := K1 (by rw [ez]; decide)
    rw [ez] at h9
    exact h9
  refine xsw_c (fun c1 => ?_) (fun n1_110 => ?_)
  · skip
    refine x_iconst (pc := 52) (v := 0) dX10_place_52 (by decide) ?_
    refine x_ireturn (pc := 53) dX10_place_53 ⟨_, rfl, rfl⟩ ⟨Nat.le_refl _, Nat.le_refl _⟩ ?_
    have ez : a = 110 := (nM_eq ha (show 110 < 128 by decide)).mp c1
    have h9 := K1 (by rw [ez]; decide)
    rw [ez] at h9
    exact h9
  refine xsw_c (fun c1 => ?_) (fun n1_116 => ?_)
  · skip
    refine x_iconst (pc := 60) (v := 4) dX10_place_60 (by decide) ?_
    refine x_ireturn (pc := 61) dX10_place_61 ⟨_, rfl, rfl⟩ ⟨Nat.le_refl _, Nat.le_refl _⟩ ?_
    have ez : a = 116 := (nM_eq ha (show 116 < 128 by decide)).mp c1
    have h9 := K1 (by rw [ez]; decide)
    rw [ez] at h9
    exact h9
  refine xsw_n ?_
  refine x_iconst (pc := 62) (v := -1) dX10_place_62 (by decide) ?_
  refine x_ireturn (pc := 63) dX10_place_63 ⟨_, rfl, rfl⟩ ⟨Nat.le_refl _, Nat.le_refl _⟩ ?_
  exact K0 (fun q => by
    rcases q with z | z | z | z | z
    · exact n1_110 ((nM_eq ha (show 110 < 128 by decide)).mpr z)
    · exact n1_104 ((nM_eq ha (show 104 < 128 by decide)).mpr z)
    · exact n1_98 ((nM_eq ha (show 98 < 128 by decide)).mpr z)
    · exact n1_99 ((nM_eq ha (show 99 < 128 by decide)).mpr z)
    · exact n1_116 ((nM_eq ha (show 116 < 128 by decide)).mpr z))

