/-! ===== act: both sides ===== -/
def ap1 (f : Nat → Nat) (r a : Nat) : Nat → Nat := fun i => if i = r then a else f i
def apL (f : Nat → Nat) : Nat → List Nat → Nat → Nat
  | _, [] => f
  | r, a :: l => apL (ap1 f r a) (r + 1) l
theorem apL_lo : ∀ (l : List Nat) (f : Nat → Nat) (r i : Nat), i < r → apL f r l i = f i
  | [], _, _, _, _ => rfl
  | a :: l, f, r, i, h => (apL_lo l (ap1 f r a) (r + 1) i (by omega)).trans (if_neg (by omega))
theorem apL_get : ∀ (l : List Nat) (f : Nat → Nat) (r i : Nat), i < l.length → apL f r l (r + i) = l.getD i 0
  | [], _, _, _, h => absurd h (by simp)
  | a :: l, f, r, i, h => by
    rcases i with _|i
    · exact (apL_lo l (ap1 f r a) (r + 1) (r + 0) (by omega)).trans (if_pos rfl)
    · have e := apL_get l (ap1 f r a) (r + 1) i (by simpa using h)
      rw [show r + 1 + i = r + (i + 1) by omega] at e
      exact e
/-- the acts of the class: r bodies noted -/
def ATC (I : xI) (ac ka v b r : Nat) (f : Nat → Nat) : Prop := I ac 1 = nI r ∧ I ac 2 = nI ka ∧ I ac 3 = nI v ∧ I ac 4 = nI b ∧ bRow I (ac + 1) r f
theorem ATC.step {I : xI} {ac ka v b r a : Nat} {x : Int32} {f : Nat → Nat} (h : ATC I ac ka v b r f) (hx : x = nI a) : ATC (up2 (up2 (up2 I ac 1 (nI (r + 1))) (ac + 2) r x) (ac + 1) 1 (nI (r + 1))) ac ka v b (r + 1) (ap1 f r a) := by
  subst hx
  obtain ⟨h1, h2, h3, h4, h5⟩ := h
  have g : ∀ k, up2 (up2 (up2 I ac 1 (nI (r + 1))) (ac + 2) r (nI a)) (ac + 1) 1 (nI (r + 1)) ac k = up2 I ac 1 (nI (r + 1)) ac k := fun k => congrFun ((up2_row (by omega)).trans (up2_row (by omega))) k
  refine ⟨(g 1).trans up2_s, (g 2).trans ((up2_k (by decide)).trans h2), (g 3).trans ((up2_k (by decide)).trans h3), (g 4).trans ((up2_k (by decide)).trans h4), up2_s, fun i hi => ?_⟩
  rw [up2_row (show ac + 1 + 1 ≠ ac + 1 by omega), show ac + 1 + 1 = ac + 2 from rfl]
  unfold ap1
  by_cases e : i = r
  · rw [e, up2_s, if_pos rfl]
  · rw [up2_k e, if_neg e, up2_row (show ac + 2 ≠ ac by omega)]
    exact h5.2 i (by omega)
def ATM (I : xI) (M ka v b r : Nat) (f : Nat → Nat) : Prop := I M 64 = nI r ∧ I (M + 1) b = nI ka ∧ I (M + 2) b = nI v ∧ ∀ i, i < r → I (M + 35) i = nI (f i)
theorem ATM.step {I : xI} {M ka v b r a : Nat} {x : Int32} {f : Nat → Nat} (h : ATM I M ka v b r f) (hx : x = nI a) : ATM (up2 (up2 I (M + 35) r x) M 64 (nI (r + 1))) M ka v b (r + 1) (ap1 f r a) := by
  subst hx
  obtain ⟨h1, h2, h3, h4⟩ := h
  refine ⟨up2_s, (congrFun ((up2_row (by omega)).trans (up2_row (by omega))) b).trans h2, (congrFun ((up2_row (by omega)).trans (up2_row (by omega))) b).trans h3, fun i hi => ?_⟩
  rw [up2_row (show M + 35 ≠ M by omega)]
  unfold ap1
  by_cases e : i = r
  · rw [e, up2_s, if_pos rfl]
  · rw [up2_k e, if_neg e]
    exact h4 i (by omega)
def atF (ac : Nat) (I J : xI) : Prop := ∀ a, a ≠ ac → a ≠ ac + 1 → a ≠ ac + 2 → J a = I a
theorem atF.tr {ac : Nat} {I J J' : xI} (h : atF ac I J) (h' : atF ac J J') : atF ac I J' := fun a p q s => (h' a p q s).trans (h a p q s)
theorem atF.st {I : xI} {ac k r k2 : Nat} {u w t : Int32} : atF ac I (up2 (up2 (up2 I ac k u) (ac + 2) r w) (ac + 1) k2 t) := fun a p q s => (up2_row q).trans ((up2_row s).trans (up2_row p))
def amF (M : Nat) (I J : xI) : Prop := (∀ a, a ≠ M → a ≠ M + 35 → J a = I a) ∧ ∀ k, k ≠ 64 → J M k = I M k
theorem amF.rf {M : Nat} {I : xI} : amF M I I := ⟨fun _ _ _ => rfl, fun _ _ => rfl⟩
theorem amF.tr {M : Nat} {I J J' : xI} (h : amF M I J) (h' : amF M J J') : amF M I J' := ⟨fun a p q => (h'.1 a p q).trans (h.1 a p q), fun k p => (h'.2 k p).trans (h.2 k p)⟩
theorem amF.st {M r : Nat} {I : xI} {u w : Int32} : amF M I (up2 (up2 I (M + 35) r u) M 64 w) := ⟨fun a p q => (up2_row p).trans (up2_row q), fun k p => (up2_k p).trans (congrFun (up2_row (by omega)) k)⟩

set_option maxHeartbeats 4000000 in
set_option maxRecDepth 100000 in
theorem c_bodyOf_0_0 {T : xT} {n : Nat} {sh : Nat → Nat × Nat} {I : xI} {R : xR} {L : xL} {P : xPost} (K : P (n, sh, 0, 0) I R L (some (.int 10))) : XM T zX0_bodyOf 0 [.int 0, .int 0] n sh I R L P := by
  refine x_iload_n (pc := 0) dX0_bodyOf_0 rfl rfl ?_
  refine x_tsw (pc := 1) (dt := 155) [(0, 44), (1, 66), (2, 78), (3, 89), (4, 101), (5, 122), (6, 134)] dX0_bodyOf_1 (by decide +kernel) (by decide) ?_
  refine xsw_c (fun _ => ?_) (fun h => absurd rfl h)
  refine x_iload_n (pc := 44) dX0_bodyOf_44 rfl rfl ?_
  refine x_if_ne_f (pc := 45) (tgt := 53) dX0_bodyOf_45 (by decide) (by decide) ?_
  refine x_bipush (pc := 48) (v := 10) dX0_bodyOf_48 (by decide) ?_
  refine x_goto (pc := 50) (tgt := 65) dX0_bodyOf_50 (by decide) ?_
  refine x_ireturn (pc := 65) dX0_bodyOf_65 ⟨_, rfl, rfl⟩ ⟨Nat.le_refl _, Nat.le_refl _⟩ ?_
  exact K

set_option maxHeartbeats 4000000 in
set_option maxRecDepth 100000 in
theorem c_bodyOf_0_1 {T : xT} {n : Nat} {sh : Nat → Nat × Nat} {I : xI} {R : xR} {L : xL} {P : xPost} (K : P (n, sh, 0, 0) I R L (some (.int 11))) : XM T zX0_bodyOf 0 [.int 0, .int 1] n sh I R L P := by
  refine x_iload_n (pc := 0) dX0_bodyOf_0 rfl rfl ?_
  refine x_tsw (pc := 1) (dt := 155) [(0, 44), (1, 66), (2, 78), (3, 89), (4, 101), (5, 122), (6, 134)] dX0_bodyOf_1 (by decide +kernel) (by decide) ?_
  refine xsw_c (fun _ => ?_) (fun h => absurd rfl h)
  refine x_iload_n (pc := 44) dX0_bodyOf_44 rfl rfl ?_
  refine x_if_ne_t (pc := 45) (tgt := 53) dX0_bodyOf_45 (by decide) (by decide) ?_
  refine x_iload_n (pc := 53) dX0_bodyOf_53 rfl rfl ?_
  refine x_iconst (pc := 54) (v := 1) dX0_bodyOf_54 (by decide) ?_
  refine x_icmp_ne_f (pc := 55) (tgt := 63) dX0_bodyOf_55 (by decide) (by decide) ?_
  refine x_bipush (pc := 58) (v := 11) dX0_bodyOf_58 (by decide) ?_
  refine x_goto (pc := 60) (tgt := 65) dX0_bodyOf_60 (by decide) ?_
  refine x_ireturn (pc := 65) dX0_bodyOf_65 ⟨_, rfl, rfl⟩ ⟨Nat.le_refl _, Nat.le_refl _⟩ ?_
  exact K

set_option maxHeartbeats 4000000 in
set_option maxRecDepth 100000 in
theorem c_bodyOf_0_2 {T : xT} {n : Nat} {sh : Nat → Nat × Nat} {I : xI} {R : xR} {L : xL} {P : xPost} (K : P (n, sh, 0, 0) I R L (some (.int 12))) : XM T zX0_bodyOf 0 [.int 0, .int 2] n sh I R L P := by
  refine x_iload_n (pc := 0) dX0_bodyOf_0 rfl rfl ?_
  refine x_tsw (pc := 1) (dt := 155) [(0, 44), (1, 66), (2, 78), (3, 89), (4, 101), (5, 122), (6, 134)] dX0_bodyOf_1 (by decide +kernel) (by decide) ?_
  refine xsw_c (fun _ => ?_) (fun h => absurd rfl h)
  refine x_iload_n (pc := 44) dX0_bodyOf_44 rfl rfl ?_
  refine x_if_ne_t (pc := 45) (tgt := 53) dX0_bodyOf_45 (by decide) (by decide) ?_
  refine x_iload_n (pc := 53) dX0_bodyOf_53 rfl rfl ?_
  refine x_iconst (pc := 54) (v := 1) dX0_bodyOf_54 (by decide) ?_
  refine x_icmp_ne_t (pc := 55) (tgt := 63) dX0_bodyOf_55 (by decide) (by decide) ?_
  refine x_bipush (pc := 63) (v := 12) dX0_bodyOf_63 (by decide) ?_
  refine x_ireturn (pc := 65) dX0_bodyOf_65 ⟨_, rfl, rfl⟩ ⟨Nat.le_refl _, Nat.le_refl _⟩ ?_
  exact K

set_option maxHeartbeats 4000000 in
set_option maxRecDepth 100000 in
theorem c_bodyOf_1_0 {T : xT} {n : Nat} {sh : Nat → Nat × Nat} {I : xI} {R : xR} {L : xL} {P : xPost} (K : P (n, sh, 0, 0) I R L (some (.int (-1)))) : XM T zX0_bodyOf 0 [.int 1, .int 0] n sh I R L P := by
  refine x_iload_n (pc := 0) dX0_bodyOf_0 rfl rfl ?_
  refine x_tsw (pc := 1) (dt := 155) [(0, 44), (1, 66), (2, 78), (3, 89), (4, 101), (5, 122), (6, 134)] dX0_bodyOf_1 (by decide +kernel) (by decide) ?_
  refine xsw_c (fun h => absurd h (by decide)) (fun _ => ?_)
  refine xsw_c (fun _ => ?_) (fun h => absurd rfl h)
  refine x_iload_n (pc := 66) dX0_bodyOf_66 rfl rfl ?_
  refine x_iconst (pc := 67) (v := 1) dX0_bodyOf_67 (by decide) ?_
  refine x_icmp_ne_t (pc := 68) (tgt := 76) dX0_bodyOf_68 (by decide) (by decide) ?_
  refine x_iconst (pc := 76) (v := -1) dX0_bodyOf_76 (by decide) ?_
  refine x_ireturn (pc := 77) dX0_bodyOf_77 ⟨_, rfl, rfl⟩ ⟨Nat.le_refl _, Nat.le_refl _⟩ ?_
  exact K

set_option maxHeartbeats 4000000 in
set_option maxRecDepth 100000 in
theorem c_bodyOf_1_1 {T : xT} {n : Nat} {sh : Nat → Nat × Nat} {I : xI} {R : xR} {L : xL} {P : xPost} (K : P (n, sh, 0, 0) I R L (some (.int 20))) : XM T zX0_bodyOf 0 [.int 1, .int 1] n sh I R L P := by
  refine x_iload_n (pc := 0) dX0_bodyOf_0 rfl rfl ?_
  refine x_tsw (pc := 1) (dt := 155) [(0, 44), (1, 66), (2, 78), (3, 89), (4, 101), (5, 122), (6, 134)] dX0_bodyOf_1 (by decide +kernel) (by decide) ?_
  refine xsw_c (fun h => absurd h (by decide)) (fun _ => ?_)
  refine xsw_c (fun _ => ?_) (fun h => absurd rfl h)
  refine x_iload_n (pc := 66) dX0_bodyOf_66 rfl rfl ?_
  refine x_iconst (pc := 67) (v := 1) dX0_bodyOf_67 (by decide) ?_
  refine x_icmp_ne_f (pc := 68) (tgt := 76) dX0_bodyOf_68 (by decide) (by decide) ?_
  refine x_bipush (pc := 71) (v := 20) dX0_bodyOf_71 (by decide) ?_
  refine x_goto (pc := 73) (tgt := 77) dX0_bodyOf_73 (by decide) ?_
  refine x_ireturn (pc := 77) dX0_bodyOf_77 ⟨_, rfl, rfl⟩ ⟨Nat.le_refl _, Nat.le_refl _⟩ ?_
  exact K

set_option maxHeartbeats 4000000 in
set_option maxRecDepth 100000 in
theorem c_bodyOf_1_2 {T : xT} {n : Nat} {sh : Nat → Nat × Nat} {I : xI} {R : xR} {L : xL} {P : xPost} (K : P (n, sh, 0, 0) I R L (some (.int (-1)))) : XM T zX0_bodyOf 0 [.int 1, .int 2] n sh I R L P := by
  refine x_iload_n (pc := 0) dX0_bodyOf_0 rfl rfl ?_
  refine x_tsw (pc := 1) (dt := 155) [(0, 44), (1, 66), (2, 78), (3, 89), (4, 101), (5, 122), (6, 134)] dX0_bodyOf_1 (by decide +kernel) (by decide) ?_
  refine xsw_c (fun h => absurd h (by decide)) (fun _ => ?_)
  refine xsw_c (fun _ => ?_) (fun h => absurd rfl h)
  refine x_iload_n (pc := 66) dX0_bodyOf_66 rfl rfl ?_
  refine x_iconst (pc := 67) (v := 1) dX0_bodyOf_67 (by decide) ?_
  refine x_icmp_ne_t (pc := 68) (tgt := 76) dX0_bodyOf_68 (by decide) (by decide) ?_
  refine x_iconst (pc := 76) (v := -1) dX0_bodyOf_76 (by decide) ?_
  refine x_ireturn (pc := 77) dX0_bodyOf_77 ⟨_, rfl, rfl⟩ ⟨Nat.le_refl _, Nat.le_refl _⟩ ?_
  exact K

set_option maxHeartbeats 4000000 in
set_option maxRecDepth 100000 in
theorem c_bodyOf_2_0 {T : xT} {n : Nat} {sh : Nat → Nat × Nat} {I : xI} {R : xR} {L : xL} {P : xPost} (K : P (n, sh, 0, 0) I R L (some (.int 30))) : XM T zX0_bodyOf 0 [.int 2, .int 0] n sh I R L P := by
  refine x_iload_n (pc := 0) dX0_bodyOf_0 rfl rfl ?_
  refine x_tsw (pc := 1) (dt := 155) [(0, 44), (1, 66), (2, 78), (3, 89), (4, 101), (5, 122), (6, 134)] dX0_bodyOf_1 (by decide +kernel) (by decide) ?_
  refine xsw_c (fun h => absurd h (by decide)) (fun _ => ?_)
  refine xsw_c (fun h => absurd h (by decide)) (fun _ => ?_)
  refine xsw_c (fun _ => ?_) (fun h => absurd rfl h)
  refine x_iload_n (pc := 78) dX0_bodyOf_78 rfl rfl ?_
  refine x_if_ne_f (pc := 79) (tgt := 87) dX0_bodyOf_79 (by decide) (by decide) ?_
  refine x_bipush (pc := 82) (v := 30) dX0_bodyOf_82 (by decide) ?_
  refine x_goto (pc := 84) (tgt := 88) dX0_bodyOf_84 (by decide) ?_
  refine x_ireturn (pc := 88) dX0_bodyOf_88 ⟨_, rfl, rfl⟩ ⟨Nat.le_refl _, Nat.le_refl _⟩ ?_
  exact K

set_option maxHeartbeats 4000000 in
set_option maxRecDepth 100000 in
theorem c_bodyOf_2_1 {T : xT} {n : Nat} {sh : Nat → Nat × Nat} {I : xI} {R : xR} {L : xL} {P : xPost} (K : P (n, sh, 0, 0) I R L (some (.int (-1)))) : XM T zX0_bodyOf 0 [.int 2, .int 1] n sh I R L P := by
  refine x_iload_n (pc := 0) dX0_bodyOf_0 rfl rfl ?_
  refine x_tsw (pc := 1) (dt := 155) [(0, 44), (1, 66), (2, 78), (3, 89), (4, 101), (5, 122), (6, 134)] dX0_bodyOf_1 (by decide +kernel) (by decide) ?_
  refine xsw_c (fun h => absurd h (by decide)) (fun _ => ?_)
  refine xsw_c (fun h => absurd h (by decide)) (fun _ => ?_)
  refine xsw_c (fun _ => ?_) (fun h => absurd rfl h)
  refine x_iload_n (pc := 78) dX0_bodyOf_78 rfl rfl ?_
  refine x_if_ne_t (pc := 79) (tgt := 87) dX0_bodyOf_79 (by decide) (by decide) ?_
  refine x_iconst (pc := 87) (v := -1) dX0_bodyOf_87 (by decide) ?_
  refine x_ireturn (pc := 88) dX0_bodyOf_88 ⟨_, rfl, rfl⟩ ⟨Nat.le_refl _, Nat.le_refl _⟩ ?_
  exact K

set_option maxHeartbeats 4000000 in
set_option maxRecDepth 100000 in
theorem c_bodyOf_2_2 {T : xT} {n : Nat} {sh : Nat → Nat × Nat} {I : xI} {R : xR} {L : xL} {P : xPost} (K : P (n, sh, 0, 0) I R L (some (.int (-1)))) : XM T zX0_bodyOf 0 [.int 2, .int 2] n sh I R L P := by
  refine x_iload_n (pc := 0) dX0_bodyOf_0 rfl rfl ?_
  refine x_tsw (pc := 1) (dt := 155) [(0, 44), (1, 66), (2, 78), (3, 89), (4, 101), (5, 122), (6, 134)] dX0_bodyOf_1 (by decide +kernel) (by decide) ?_
  refine xsw_c (fun h => absurd h (by decide)) (fun _ => ?_)
  refine xsw_c (fun h => absurd h (by decide)) (fun _ => ?_)
  refine xsw_c (fun _ => ?_) (fun h => absurd rfl h)
  refine x_iload_n (pc := 78) dX0_bodyOf_78 rfl rfl ?_
  refine x_if_ne_t (pc := 79) (tgt := 87) dX0_bodyOf_79 (by decide) (by decide) ?_
  refine x_iconst (pc := 87) (v := -1) dX0_bodyOf_87 (by decide) ?_
  refine x_ireturn (pc := 88) dX0_bodyOf_88 ⟨_, rfl, rfl⟩ ⟨Nat.le_refl _, Nat.le_refl _⟩ ?_
  exact K

set_option maxHeartbeats 4000000 in
set_option maxRecDepth 100000 in
theorem c_bodyOf_3_0 {T : xT} {n : Nat} {sh : Nat → Nat × Nat} {I : xI} {R : xR} {L : xL} {P : xPost} (K : P (n, sh, 0, 0) I R L (some (.int (-1)))) : XM T zX0_bodyOf 0 [.int 3, .int 0] n sh I R L P := by
  refine x_iload_n (pc := 0) dX0_bodyOf_0 rfl rfl ?_
  refine x_tsw (pc := 1) (dt := 155) [(0, 44), (1, 66), (2, 78), (3, 89), (4, 101), (5, 122), (6, 134)] dX0_bodyOf_1 (by decide +kernel) (by decide) ?_
  refine xsw_c (fun h => absurd h (by decide)) (fun _ => ?_)
  refine xsw_c (fun h => absurd h (by decide)) (fun _ => ?_)
  refine xsw_c (fun h => absurd h (by decide)) (fun _ => ?_)
  refine xsw_c (fun _ => ?_) (fun h => absurd rfl h)
  refine x_iload_n (pc := 89) dX0_bodyOf_89 rfl rfl ?_
  refine x_iconst (pc := 90) (v := 2) dX0_bodyOf_90 (by decide) ?_
  refine x_icmp_ne_t (pc := 91) (tgt := 99) dX0_bodyOf_91 (by decide) (by decide) ?_
  refine x_iconst (pc := 99) (v := -1) dX0_bodyOf_99 (by decide) ?_
  refine x_ireturn (pc := 100) dX0_bodyOf_100 ⟨_, rfl, rfl⟩ ⟨Nat.le_refl _, Nat.le_refl _⟩ ?_
  exact K

set_option maxHeartbeats 4000000 in
set_option maxRecDepth 100000 in
theorem c_bodyOf_3_1 {T : xT} {n : Nat} {sh : Nat → Nat × Nat} {I : xI} {R : xR} {L : xL} {P : xPost} (K : P (n, sh, 0, 0) I R L (some (.int (-1)))) : XM T zX0_bodyOf 0 [.int 3, .int 1] n sh I R L P := by
  refine x_iload_n (pc := 0) dX0_bodyOf_0 rfl rfl ?_
  refine x_tsw (pc := 1) (dt := 155) [(0, 44), (1, 66), (2, 78), (3, 89), (4, 101), (5, 122), (6, 134)] dX0_bodyOf_1 (by decide +kernel) (by decide) ?_
  refine xsw_c (fun h => absurd h (by decide)) (fun _ => ?_)
  refine xsw_c (fun h => absurd h (by decide)) (fun _ => ?_)
  refine xsw_c (fun h => absurd h (by decide)) (fun _ => ?_)
  refine xsw_c (fun _ => ?_) (fun h => absurd rfl h)
  refine x_iload_n (pc := 89) dX0_bodyOf_89 rfl rfl ?_
  refine x_iconst (pc := 90) (v := 2) dX0_bodyOf_90 (by decide) ?_
  refine x_icmp_ne_t (pc := 91) (tgt := 99) dX0_bodyOf_91 (by decide) (by decide) ?_
  refine x_iconst (pc := 99) (v := -1) dX0_bodyOf_99 (by decide) ?_
  refine x_ireturn (pc := 100) dX0_bodyOf_100 ⟨_, rfl, rfl⟩ ⟨Nat.le_refl _, Nat.le_refl _⟩ ?_
  exact K

set_option maxHeartbeats 4000000 in
set_option maxRecDepth 100000 in
theorem c_bodyOf_3_2 {T : xT} {n : Nat} {sh : Nat → Nat × Nat} {I : xI} {R : xR} {L : xL} {P : xPost} (K : P (n, sh, 0, 0) I R L (some (.int 40))) : XM T zX0_bodyOf 0 [.int 3, .int 2] n sh I R L P := by
  refine x_iload_n (pc := 0) dX0_bodyOf_0 rfl rfl ?_
  refine x_tsw (pc := 1) (dt := 155) [(0, 44), (1, 66), (2, 78), (3, 89), (4, 101), (5, 122), (6, 134)] dX0_bodyOf_1 (by decide +kernel) (by decide) ?_
  refine xsw_c (fun h => absurd h (by decide)) (fun _ => ?_)
  refine xsw_c (fun h => absurd h (by decide)) (fun _ => ?_)
  refine xsw_c (fun h => absurd h (by decide)) (fun _ => ?_)
  refine xsw_c (fun _ => ?_) (fun h => absurd rfl h)
  refine x_iload_n (pc := 89) dX0_bodyOf_89 rfl rfl ?_
  refine x_iconst (pc := 90) (v := 2) dX0_bodyOf_90 (by decide) ?_
  refine x_icmp_ne_f (pc := 91) (tgt := 99) dX0_bodyOf_91 (by decide) (by decide) ?_
  refine x_bipush (pc := 94) (v := 40) dX0_bodyOf_94 (by decide) ?_
  refine x_goto (pc := 96) (tgt := 100) dX0_bodyOf_96 (by decide) ?_
  refine x_ireturn (pc := 100) dX0_bodyOf_100 ⟨_, rfl, rfl⟩ ⟨Nat.le_refl _, Nat.le_refl _⟩ ?_
  exact K

set_option maxHeartbeats 4000000 in
set_option maxRecDepth 100000 in
theorem c_bodyOf_4_0 {T : xT} {n : Nat} {sh : Nat → Nat × Nat} {I : xI} {R : xR} {L : xL} {P : xPost} (K : P (n, sh, 0, 0) I R L (some (.int 50))) : XM T zX0_bodyOf 0 [.int 4, .int 0] n sh I R L P := by
  refine x_iload_n (pc := 0) dX0_bodyOf_0 rfl rfl ?_
  refine x_tsw (pc := 1) (dt := 155) [(0, 44), (1, 66), (2, 78), (3, 89), (4, 101), (5, 122), (6, 134)] dX0_bodyOf_1 (by decide +kernel) (by decide) ?_
  refine xsw_c (fun h => absurd h (by decide)) (fun _ => ?_)
  refine xsw_c (fun h => absurd h (by decide)) (fun _ => ?_)
  refine xsw_c (fun h => absurd h (by decide)) (fun _ => ?_)
  refine xsw_c (fun h => absurd h (by decide)) (fun _ => ?_)
  refine xsw_c (fun _ => ?_) (fun h => absurd rfl h)
  refine x_iload_n (pc := 101) dX0_bodyOf_101 rfl rfl ?_
  refine x_if_ne_f (pc := 102) (tgt := 110) dX0_bodyOf_102 (by decide) (by decide) ?_
  refine x_bipush (pc := 105) (v := 50) dX0_bodyOf_105 (by decide) ?_
  refine x_goto (pc := 107) (tgt := 121) dX0_bodyOf_107 (by decide) ?_
  refine x_ireturn (pc := 121) dX0_bodyOf_121 ⟨_, rfl, rfl⟩ ⟨Nat.le_refl _, Nat.le_refl _⟩ ?_
  exact K

set_option maxHeartbeats 4000000 in
set_option maxRecDepth 100000 in
theorem c_bodyOf_4_1 {T : xT} {n : Nat} {sh : Nat → Nat × Nat} {I : xI} {R : xR} {L : xL} {P : xPost} (K : P (n, sh, 0, 0) I R L (some (.int 51))) : XM T zX0_bodyOf 0 [.int 4, .int 1] n sh I R L P := by
  refine x_iload_n (pc := 0) dX0_bodyOf_0 rfl rfl ?_
  refine x_tsw (pc := 1) (dt := 155) [(0, 44), (1, 66), (2, 78), (3, 89), (4, 101), (5, 122), (6, 134)] dX0_bodyOf_1 (by decide +kernel) (by decide) ?_
  refine xsw_c (fun h => absurd h (by decide)) (fun _ => ?_)
  refine xsw_c (fun h => absurd h (by decide)) (fun _ => ?_)
  refine xsw_c (fun h => absurd h (by decide)) (fun _ => ?_)
  refine xsw_c (fun h => absurd h (by decide)) (fun _ => ?_)
  refine xsw_c (fun _ => ?_) (fun h => absurd rfl h)
  refine x_iload_n (pc := 101) dX0_bodyOf_101 rfl rfl ?_
  refine x_if_ne_t (pc := 102) (tgt := 110) dX0_bodyOf_102 (by decide) (by decide) ?_
  refine x_iload_n (pc := 110) dX0_bodyOf_110 rfl rfl ?_
  refine x_iconst (pc := 111) (v := 1) dX0_bodyOf_111 (by decide) ?_
  refine x_icmp_ne_f (pc := 112) (tgt := 120) dX0_bodyOf_112 (by decide) (by decide) ?_
  refine x_bipush (pc := 115) (v := 51) dX0_bodyOf_115 (by decide) ?_
  refine x_goto (pc := 117) (tgt := 121) dX0_bodyOf_117 (by decide) ?_
  refine x_ireturn (pc := 121) dX0_bodyOf_121 ⟨_, rfl, rfl⟩ ⟨Nat.le_refl _, Nat.le_refl _⟩ ?_
  exact K

set_option maxHeartbeats 4000000 in
set_option maxRecDepth 100000 in
theorem c_bodyOf_4_2 {T : xT} {n : Nat} {sh : Nat → Nat × Nat} {I : xI} {R : xR} {L : xL} {P : xPost} (K : P (n, sh, 0, 0) I R L (some (.int (-1)))) : XM T zX0_bodyOf 0 [.int 4, .int 2] n sh I R L P := by
  refine x_iload_n (pc := 0) dX0_bodyOf_0 rfl rfl ?_
  refine x_tsw (pc := 1) (dt := 155) [(0, 44), (1, 66), (2, 78), (3, 89), (4, 101), (5, 122), (6, 134)] dX0_bodyOf_1 (by decide +kernel) (by decide) ?_
  refine xsw_c (fun h => absurd h (by decide)) (fun _ => ?_)
  refine xsw_c (fun h => absurd h (by decide)) (fun _ => ?_)
  refine xsw_c (fun h => absurd h (by decide)) (fun _ => ?_)
  refine xsw_c (fun h => absurd h (by decide)) (fun _ => ?_)
  refine xsw_c (fun _ => ?_) (fun h => absurd rfl h)
  refine x_iload_n (pc := 101) dX0_bodyOf_101 rfl rfl ?_
  refine x_if_ne_t (pc := 102) (tgt := 110) dX0_bodyOf_102 (by decide) (by decide) ?_
  refine x_iload_n (pc := 110) dX0_bodyOf_110 rfl rfl ?_
  refine x_iconst (pc := 111) (v := 1) dX0_bodyOf_111 (by decide) ?_
  refine x_icmp_ne_t (pc := 112) (tgt := 120) dX0_bodyOf_112 (by decide) (by decide) ?_
  refine x_iconst (pc := 120) (v := -1) dX0_bodyOf_120 (by decide) ?_
  refine x_ireturn (pc := 121) dX0_bodyOf_121 ⟨_, rfl, rfl⟩ ⟨Nat.le_refl _, Nat.le_refl _⟩ ?_
  exact K

set_option maxHeartbeats 4000000 in
set_option maxRecDepth 100000 in
theorem c_bodyOf_5_0 {T : xT} {n : Nat} {sh : Nat → Nat × Nat} {I : xI} {R : xR} {L : xL} {P : xPost} (K : P (n, sh, 0, 0) I R L (some (.int (-1)))) : XM T zX0_bodyOf 0 [.int 5, .int 0] n sh I R L P := by
  refine x_iload_n (pc := 0) dX0_bodyOf_0 rfl rfl ?_
  refine x_tsw (pc := 1) (dt := 155) [(0, 44), (1, 66), (2, 78), (3, 89), (4, 101), (5, 122), (6, 134)] dX0_bodyOf_1 (by decide +kernel) (by decide) ?_
  refine xsw_c (fun h => absurd h (by decide)) (fun _ => ?_)
  refine xsw_c (fun h => absurd h (by decide)) (fun _ => ?_)
  refine xsw_c (fun h => absurd h (by decide)) (fun _ => ?_)
  refine xsw_c (fun h => absurd h (by decide)) (fun _ => ?_)
  refine xsw_c (fun h => absurd h (by decide)) (fun _ => ?_)
  refine xsw_c (fun _ => ?_) (fun h => absurd rfl h)
  refine x_iload_n (pc := 122) dX0_bodyOf_122 rfl rfl ?_
  refine x_iconst (pc := 123) (v := 2) dX0_bodyOf_123 (by decide) ?_
  refine x_icmp_ne_t (pc := 124) (tgt := 132) dX0_bodyOf_124 (by decide) (by decide) ?_
  refine x_iconst (pc := 132) (v := -1) dX0_bodyOf_132 (by decide) ?_
  refine x_ireturn (pc := 133) dX0_bodyOf_133 ⟨_, rfl, rfl⟩ ⟨Nat.le_refl _, Nat.le_refl _⟩ ?_
  exact K

set_option maxHeartbeats 4000000 in
set_option maxRecDepth 100000 in
theorem c_bodyOf_5_1 {T : xT} {n : Nat} {sh : Nat → Nat × Nat} {I : xI} {R : xR} {L : xL} {P : xPost} (K : P (n, sh, 0, 0) I R L (some (.int (-1)))) : XM T zX0_bodyOf 0 [.int 5, .int 1] n sh I R L P := by
  refine x_iload_n (pc := 0) dX0_bodyOf_0 rfl rfl ?_
  refine x_tsw (pc := 1) (dt := 155) [(0, 44), (1, 66), (2, 78), (3, 89), (4, 101), (5, 122), (6, 134)] dX0_bodyOf_1 (by decide +kernel) (by decide) ?_
  refine xsw_c (fun h => absurd h (by decide)) (fun _ => ?_)
  refine xsw_c (fun h => absurd h (by decide)) (fun _ => ?_)
  refine xsw_c (fun h => absurd h (by decide)) (fun _ => ?_)
  refine xsw_c (fun h => absurd h (by decide)) (fun _ => ?_)
  refine xsw_c (fun h => absurd h (by decide)) (fun _ => ?_)
  refine xsw_c (fun _ => ?_) (fun h => absurd rfl h)
  refine x_iload_n (pc := 122) dX0_bodyOf_122 rfl rfl ?_
  refine x_iconst (pc := 123) (v := 2) dX0_bodyOf_123 (by decide) ?_
  refine x_icmp_ne_t (pc := 124) (tgt := 132) dX0_bodyOf_124 (by decide) (by decide) ?_
  refine x_iconst (pc := 132) (v := -1) dX0_bodyOf_132 (by decide) ?_
  refine x_ireturn (pc := 133) dX0_bodyOf_133 ⟨_, rfl, rfl⟩ ⟨Nat.le_refl _, Nat.le_refl _⟩ ?_
  exact K

set_option maxHeartbeats 4000000 in
set_option maxRecDepth 100000 in
theorem c_bodyOf_5_2 {T : xT} {n : Nat} {sh : Nat → Nat × Nat} {I : xI} {R : xR} {L : xL} {P : xPost} (K : P (n, sh, 0, 0) I R L (some (.int 60))) : XM T zX0_bodyOf 0 [.int 5, .int 2] n sh I R L P := by
  refine x_iload_n (pc := 0) dX0_bodyOf_0 rfl rfl ?_
  refine x_tsw (pc := 1) (dt := 155) [(0, 44), (1, 66), (2, 78), (3, 89), (4, 101), (5, 122), (6, 134)] dX0_bodyOf_1 (by decide +kernel) (by decide) ?_
  refine xsw_c (fun h => absurd h (by decide)) (fun _ => ?_)
  refine xsw_c (fun h => absurd h (by decide)) (fun _ => ?_)
  refine xsw_c (fun h => absurd h (by decide)) (fun _ => ?_)
  refine xsw_c (fun h => absurd h (by decide)) (fun _ => ?_)
  refine xsw_c (fun h => absurd h (by decide)) (fun _ => ?_)
  refine xsw_c (fun _ => ?_) (fun h => absurd rfl h)
  refine x_iload_n (pc := 122) dX0_bodyOf_122 rfl rfl ?_
  refine x_iconst (pc := 123) (v := 2) dX0_bodyOf_123 (by decide) ?_
  refine x_icmp_ne_f (pc := 124) (tgt := 132) dX0_bodyOf_124 (by decide) (by decide) ?_
  refine x_bipush (pc := 127) (v := 60) dX0_bodyOf_127 (by decide) ?_
  refine x_goto (pc := 129) (tgt := 133) dX0_bodyOf_129 (by decide) ?_
  refine x_ireturn (pc := 133) dX0_bodyOf_133 ⟨_, rfl, rfl⟩ ⟨Nat.le_refl _, Nat.le_refl _⟩ ?_
  exact K

set_option maxHeartbeats 4000000 in
set_option maxRecDepth 100000 in
theorem c_bodyOf_6_0 {T : xT} {n : Nat} {sh : Nat → Nat × Nat} {I : xI} {R : xR} {L : xL} {P : xPost} (K : P (n, sh, 0, 0) I R L (some (.int 71))) : XM T zX0_bodyOf 0 [.int 6, .int 0] n sh I R L P := by
  refine x_iload_n (pc := 0) dX0_bodyOf_0 rfl rfl ?_
  refine x_tsw (pc := 1) (dt := 155) [(0, 44), (1, 66), (2, 78), (3, 89), (4, 101), (5, 122), (6, 134)] dX0_bodyOf_1 (by decide +kernel) (by decide) ?_
  refine xsw_c (fun h => absurd h (by decide)) (fun _ => ?_)
  refine xsw_c (fun h => absurd h (by decide)) (fun _ => ?_)
  refine xsw_c (fun h => absurd h (by decide)) (fun _ => ?_)
  refine xsw_c (fun h => absurd h (by decide)) (fun _ => ?_)
  refine xsw_c (fun h => absurd h (by decide)) (fun _ => ?_)
  refine xsw_c (fun h => absurd h (by decide)) (fun _ => ?_)
  refine xsw_c (fun _ => ?_) (fun h => absurd rfl h)
  refine x_iload_n (pc := 134) dX0_bodyOf_134 rfl rfl ?_
  refine x_iconst (pc := 135) (v := 1) dX0_bodyOf_135 (by decide) ?_
  refine x_icmp_ne_t (pc := 136) (tgt := 144) dX0_bodyOf_136 (by decide) (by decide) ?_
  refine x_iload_n (pc := 144) dX0_bodyOf_144 rfl rfl ?_
  refine x_if_ne_f (pc := 145) (tgt := 153) dX0_bodyOf_145 (by decide) (by decide) ?_
  refine x_bipush (pc := 148) (v := 71) dX0_bodyOf_148 (by decide) ?_
  refine x_goto (pc := 150) (tgt := 154) dX0_bodyOf_150 (by decide) ?_
  refine x_ireturn (pc := 154) dX0_bodyOf_154 ⟨_, rfl, rfl⟩ ⟨Nat.le_refl _, Nat.le_refl _⟩ ?_
  exact K

set_option maxHeartbeats 4000000 in
set_option maxRecDepth 100000 in
theorem c_bodyOf_6_1 {T : xT} {n : Nat} {sh : Nat → Nat × Nat} {I : xI} {R : xR} {L : xL} {P : xPost} (K : P (n, sh, 0, 0) I R L (some (.int 70))) : XM T zX0_bodyOf 0 [.int 6, .int 1] n sh I R L P := by
  refine x_iload_n (pc := 0) dX0_bodyOf_0 rfl rfl ?_
  refine x_tsw (pc := 1) (dt := 155) [(0, 44), (1, 66), (2, 78), (3, 89), (4, 101), (5, 122), (6, 134)] dX0_bodyOf_1 (by decide +kernel) (by decide) ?_
  refine xsw_c (fun h => absurd h (by decide)) (fun _ => ?_)
  refine xsw_c (fun h => absurd h (by decide)) (fun _ => ?_)
  refine xsw_c (fun h => absurd h (by decide)) (fun _ => ?_)
  refine xsw_c (fun h => absurd h (by decide)) (fun _ => ?_)
  refine xsw_c (fun h => absurd h (by decide)) (fun _ => ?_)
  refine xsw_c (fun h => absurd h (by decide)) (fun _ => ?_)
  refine xsw_c (fun _ => ?_) (fun h => absurd rfl h)
  refine x_iload_n (pc := 134) dX0_bodyOf_134 rfl rfl ?_
  refine x_iconst (pc := 135) (v := 1) dX0_bodyOf_135 (by decide) ?_
  refine x_icmp_ne_f (pc := 136) (tgt := 144) dX0_bodyOf_136 (by decide) (by decide) ?_
  refine x_bipush (pc := 139) (v := 70) dX0_bodyOf_139 (by decide) ?_
  refine x_goto (pc := 141) (tgt := 154) dX0_bodyOf_141 (by decide) ?_
  refine x_ireturn (pc := 154) dX0_bodyOf_154 ⟨_, rfl, rfl⟩ ⟨Nat.le_refl _, Nat.le_refl _⟩ ?_
  exact K

set_option maxHeartbeats 4000000 in
set_option maxRecDepth 100000 in
theorem c_bodyOf_6_2 {T : xT} {n : Nat} {sh : Nat → Nat × Nat} {I : xI} {R : xR} {L : xL} {P : xPost} (K : P (n, sh, 0, 0) I R L (some (.int (-1)))) : XM T zX0_bodyOf 0 [.int 6, .int 2] n sh I R L P := by
  refine x_iload_n (pc := 0) dX0_bodyOf_0 rfl rfl ?_
  refine x_tsw (pc := 1) (dt := 155) [(0, 44), (1, 66), (2, 78), (3, 89), (4, 101), (5, 122), (6, 134)] dX0_bodyOf_1 (by decide +kernel) (by decide) ?_
  refine xsw_c (fun h => absurd h (by decide)) (fun _ => ?_)
  refine xsw_c (fun h => absurd h (by decide)) (fun _ => ?_)
  refine xsw_c (fun h => absurd h (by decide)) (fun _ => ?_)
  refine xsw_c (fun h => absurd h (by decide)) (fun _ => ?_)
  refine xsw_c (fun h => absurd h (by decide)) (fun _ => ?_)
  refine xsw_c (fun h => absurd h (by decide)) (fun _ => ?_)
  refine xsw_c (fun _ => ?_) (fun h => absurd rfl h)
  refine x_iload_n (pc := 134) dX0_bodyOf_134 rfl rfl ?_
  refine x_iconst (pc := 135) (v := 1) dX0_bodyOf_135 (by decide) ?_
  refine x_icmp_ne_t (pc := 136) (tgt := 144) dX0_bodyOf_136 (by decide) (by decide) ?_
  refine x_iload_n (pc := 144) dX0_bodyOf_144 rfl rfl ?_
  refine x_if_ne_t (pc := 145) (tgt := 153) dX0_bodyOf_145 (by decide) (by decide) ?_
  refine x_iconst (pc := 153) (v := -1) dX0_bodyOf_153 (by decide) ?_
  refine x_ireturn (pc := 154) dX0_bodyOf_154 ⟨_, rfl, rfl⟩ ⟨Nat.le_refl _, Nat.le_refl _⟩ ?_
  exact K

set_option maxHeartbeats 4000000 in
set_option maxRecDepth 100000 in
theorem c_run_0_0_0 {T : xT} {n : Nat} {sh : Nat → Nat × Nat} {I : xI} {R : xR} {L : xL} {P : xPost} {ac v b r : Nat} {f : Nat → Nat} (hS : sh ac = (0, 0) ∧ R ac 0 = some (ac + 1) ∧ xRow sh R (ac + 1) (ac + 2) 20) {x : Int32} {dd : Nat} (hA : ATC I ac 0 v b r f) (hr : r + 1 ≤ 20) (hd : dd + 1 ≤ 20) (K : ∀ J : xI, ATC J ac 0 v b (r + 1) (apL f r [10]) → atF ac I J → P (n, sh, 0, 0) J R L (some (.int (x + nI b)))) : XM T zX0_run 1 [.ref ac, .int 0, .int 0, .int x, .int (nI dd)] n sh I R L P := by
  refine x_iload (pc := 0) dX0_run_0 rfl ?_
  refine x_bipush (pc := 2) (v := 20) dX0_run_2 (by decide) ?_
  refine x_icmpn_le_t (pc := 4) (tgt := 9) (a := dd) (b := 20) dX0_run_4 (by decide) (by omega) (by decide) (by omega) ?_
  refine x_iload_n (pc := 9) dX0_run_9 rfl rfl ?_
  refine x_istore (pc := 10) (lv' := [(0, .ref ac), (1, .int 0), (2, .int 0), (3, .int x), (4, .int (nI dd)), (5, .int 0)]) dX0_run_10 (by decide) rfl ?_
  refine x_iconst (pc := 12) (v := 0) dX0_run_12 (by decide) ?_
  refine x_istore (pc := 13) (lv' := [(0, .ref ac), (1, .int 0), (2, .int 0), (3, .int x), (4, .int (nI dd)), (5, .int 0), (6, .int 0)]) dX0_run_13 (by decide) rfl ?_
  refine x_iload (pc := 15) dX0_run_15 rfl ?_
  refine x_bipush (pc := 17) (v := 7) dX0_run_17 (by decide) ?_
  refine x_icmp_ge_f (pc := 19) (tgt := 45) dX0_run_19 (by decide) (by decide) ?_
  refine x_iload (pc := 22) dX0_run_22 rfl ?_
  refine x_iload_n (pc := 24) dX0_run_24 rfl rfl ?_
  refine x_callS (pc := 25) (As := [.int _, .int _]) dX0_run_25 km_X0_bodyOf ks_X0_bodyOf kl_RX0_36 rfl (by decide) ⟨Nat.le_refl _, Nat.le_refl _⟩ rfl (Nat.le_of_ble_eq_true rfl) (Nat.le_of_ble_eq_true rfl) (c_bodyOf_0_0 (⟨rfl, rfl, ?_⟩))
  refine x_iconst (pc := 28) (v := -1) dX0_run_28 (by decide) ?_
  refine x_icmp_ne_t (pc := 29) (tgt := 45) dX0_run_29 (by decide) (by decide) ?_
  refine x_iload (pc := 45) dX0_run_45 rfl ?_
  refine x_iload_n (pc := 47) dX0_run_47 rfl rfl ?_
  refine x_callS (pc := 48) (As := [.int _, .int _]) dX0_run_48 km_X0_bodyOf ks_X0_bodyOf kl_RX0_36 rfl (by decide) ⟨Nat.le_refl _, Nat.le_refl _⟩ rfl (Nat.le_of_ble_eq_true rfl) (Nat.le_of_ble_eq_true rfl) (c_bodyOf_0_0 (⟨rfl, rfl, ?_⟩))
  refine x_istore (pc := 51) (lv' := [(0, .ref ac), (1, .int 0), (2, .int 0), (3, .int x), (4, .int (nI dd)), (5, .int 0), (6, .int 10)]) dX0_run_51 (by decide) rfl ?_
  refine x_iload (pc := 53) dX0_run_53 rfl ?_
  refine x_iconst (pc := 55) (v := -1) dX0_run_55 (by decide) ?_
  refine x_icmp_ne_t (pc := 56) (tgt := 61) dX0_run_56 (by decide) (by decide) ?_
  refine x_iload (pc := 61) dX0_run_61 rfl ?_
  refine x_callSN (pc := 63) (As := [.int _]) dX0_run_63 km_X9_kindAbove ks_X9_kindAbove kn_RX0_40 rfl (by decide) ⟨Nat.le_refl _, Nat.le_refl _⟩ rfl (Nat.le_of_ble_eq_true rfl) (Nat.le_of_ble_eq_true rfl) (c_kindAbove (k := 0) (by decide) (⟨rfl, rfl, ?_⟩))
  rw [show kAbI 0 = (-1) from rfl]
  refine x_istore (pc := 66) (lv' := [(0, .ref ac), (1, .int 0), (2, .int 0), (3, .int x), (4, .int (nI dd)), (5, .int 0), (6, .int 10), (7, .int (-1))]) dX0_run_66 (by decide) rfl ?_
  refine x_iload (pc := 68) dX0_run_68 rfl ?_
  refine x_iconst (pc := 70) (v := 1) dX0_run_70 (by decide) ?_
  refine x_iaddn (pc := 71) (a := dd) (b := 1) dX0_run_71 ?_
  refine x_istore (pc := 72) (lv' := [(0, .ref ac), (1, .int 0), (2, .int 0), (3, .int x), (4, .int (nI dd)), (5, .int 0), (6, .int 10), (7, .int (-1)), (8, .int (nI (dd + 1)))]) dX0_run_72 (by decide) rfl ?_
  refine x_aload_n (pc := 74) dX0_run_74 rfl rfl ?_
  refine x_dup (pc := 75) dX0_run_75 rfl ?_
  refine x_get (pc := 76) dX0_run_76 kf_RX0_20 hS.1 rfl ?_
  rw [show I ac 1 = nI r from hA.1]
  refine x_iconst (pc := 79) (v := 1) dX0_run_79 (by decide) ?_
  refine x_iaddn (pc := 80) (a := r) (b := 1) dX0_run_80 ?_
  refine x_put (pc := 81) dX0_run_81 kf_RX0_20 hS.1 rfl (Or.inl kb_0_1) ?_
  refine x_aload_n (pc := 84) dX0_run_84 rfl rfl ?_
  refine x_getr (pc := 85) dX0_run_85 kf_RX0_16 hS.1 rfl hS.2.1 ?_
  refine x_iload (pc := 88) dX0_run_88 rfl ?_
  refine x_callV (pc := 90) (As := [.int _]) dX0_run_90 km_X5_add kv_X5_add kl_RX0_44 hS.2.2.1 rfl rfl (by decide) ⟨Nat.le_refl _, Nat.le_refl _⟩ rfl (Nat.le_of_ble_eq_true rfl) (Nat.le_of_ble_eq_true rfl) (c_add (x := 10) (m := r) hS.2.2 ((congrFun (up2_row (by omega)) 1).trans hA.2.2.2.2.1) (by omega) (⟨rfl, rfl, ?_⟩))
  have h0 := hA.step (x := 10) (a := 10) rfl
  have g0 := @atF.st I ac 1 r 1 (nI (r + 1)) 10 (nI (r + 1))
  refine x_iload (pc := 93) dX0_run_93 rfl ?_
  refine x_lsw (pc := 95) (dt := 362) [(10, 192), (11, 199), (12, 217), (20, 232), (30, 246), (40, 259), (50, 283), (51, 295), (60, 308), (70, 324), (71, 346)] dX0_run_95 (by decide +kernel) (by decide +kernel) (by decide) ?_
  refine xsw_c (fun _ => ?_) (fun h => absurd rfl h)
  refine x_iload_n (pc := 192) dX0_run_192 rfl rfl ?_
  refine x_aload_n (pc := 193) dX0_run_193 rfl rfl ?_
  refine x_get (pc := 194) dX0_run_194 kf_RX0_30 hS.1 rfl ?_
  rw [show _ = (nI b : Int32) from h0.2.2.2.1]
  refine x_iadd (pc := 197) dX0_run_197 ?_
  refine x_ireturn (pc := 198) dX0_run_198 ⟨_, rfl, rfl⟩ ⟨Nat.le_refl _, Nat.le_refl _⟩ ?_
  exact K _ h0 g0

set_option maxHeartbeats 4000000 in
set_option maxRecDepth 100000 in
theorem c_run_0_1_0 {T : xT} {n : Nat} {sh : Nat → Nat × Nat} {I : xI} {R : xR} {L : xL} {P : xPost} {ac v b r : Nat} {f : Nat → Nat} (hS : sh ac = (0, 0) ∧ R ac 0 = some (ac + 1) ∧ xRow sh R (ac + 1) (ac + 2) 20) {x : Int32} {dd : Nat} (hA : ATC I ac 0 v b r f) (hr : r + 2 ≤ 20) (hd : dd + 2 ≤ 20) (K : ∀ J : xI, ATC J ac 0 v b (r + 2) (apL f r [11, 10]) → atF ac I J → P (n, sh, 0, 0) J R L (some (.int ((x + nI b) - nI v)))) : XM T zX0_run 2 [.ref ac, .int 1, .int 0, .int x, .int (nI dd)] n sh I R L P := by
  refine x_iload (pc := 0) dX0_run_0 rfl ?_
  refine x_bipush (pc := 2) (v := 20) dX0_run_2 (by decide) ?_
  refine x_icmpn_le_t (pc := 4) (tgt := 9) (a := dd) (b := 20) dX0_run_4 (by decide) (by omega) (by decide) (by omega) ?_
  refine x_iload_n (pc := 9) dX0_run_9 rfl rfl ?_
  refine x_istore (pc := 10) (lv' := [(0, .ref ac), (1, .int 1), (2, .int 0), (3, .int x), (4, .int (nI dd)), (5, .int 0)]) dX0_run_10 (by decide) rfl ?_
  refine x_iconst (pc := 12) (v := 0) dX0_run_12 (by decide) ?_
  refine x_istore (pc := 13) (lv' := [(0, .ref ac), (1, .int 1), (2, .int 0), (3, .int x), (4, .int (nI dd)), (5, .int 0), (6, .int 0)]) dX0_run_13 (by decide) rfl ?_
  refine x_iload (pc := 15) dX0_run_15 rfl ?_
  refine x_bipush (pc := 17) (v := 7) dX0_run_17 (by decide) ?_
  refine x_icmp_ge_f (pc := 19) (tgt := 45) dX0_run_19 (by decide) (by decide) ?_
  refine x_iload (pc := 22) dX0_run_22 rfl ?_
  refine x_iload_n (pc := 24) dX0_run_24 rfl rfl ?_
  refine x_callS (pc := 25) (As := [.int _, .int _]) dX0_run_25 km_X0_bodyOf ks_X0_bodyOf kl_RX0_36 rfl (by decide) ⟨Nat.le_refl _, Nat.le_refl _⟩ rfl (Nat.le_of_ble_eq_true rfl) (Nat.le_of_ble_eq_true rfl) (c_bodyOf_0_1 (⟨rfl, rfl, ?_⟩))
  refine x_iconst (pc := 28) (v := -1) dX0_run_28 (by decide) ?_
  refine x_icmp_ne_t (pc := 29) (tgt := 45) dX0_run_29 (by decide) (by decide) ?_
  refine x_iload (pc := 45) dX0_run_45 rfl ?_
  refine x_iload_n (pc := 47) dX0_run_47 rfl rfl ?_
  refine x_callS (pc := 48) (As := [.int _, .int _]) dX0_run_48 km_X0_bodyOf ks_X0_bodyOf kl_RX0_36 rfl (by decide) ⟨Nat.le_refl _, Nat.le_refl _⟩ rfl (Nat.le_of_ble_eq_true rfl) (Nat.le_of_ble_eq_true rfl) (c_bodyOf_0_1 (⟨rfl, rfl, ?_⟩))
  refine x_istore (pc := 51) (lv' := [(0, .ref ac), (1, .int 1), (2, .int 0), (3, .int x), (4, .int (nI dd)), (5, .int 0), (6, .int 11)]) dX0_run_51 (by decide) rfl ?_
  refine x_iload (pc := 53) dX0_run_53 rfl ?_
  refine x_iconst (pc := 55) (v := -1) dX0_run_55 (by decide) ?_
  refine x_icmp_ne_t (pc := 56) (tgt := 61) dX0_run_56 (by decide) (by decide) ?_
  refine x_iload (pc := 61) dX0_run_61 rfl ?_
  refine x_callSN (pc := 63) (As := [.int _]) dX0_run_63 km_X9_kindAbove ks_X9_kindAbove kn_RX0_40 rfl (by decide) ⟨Nat.le_refl _, Nat.le_refl _⟩ rfl (Nat.le_of_ble_eq_true rfl) (Nat.le_of_ble_eq_true rfl) (c_kindAbove (k := 0) (by decide) (⟨rfl, rfl, ?_⟩))
  rw [show kAbI 0 = (-1) from rfl]
  refine x_istore (pc := 66) (lv' := [(0, .ref ac), (1, .int 1), (2, .int 0), (3, .int x), (4, .int (nI dd)), (5, .int 0), (6, .int 11), (7, .int (-1))]) dX0_run_66 (by decide) rfl ?_
  refine x_iload (pc := 68) dX0_run_68 rfl ?_
  refine x_iconst (pc := 70) (v := 1) dX0_run_70 (by decide) ?_
  refine x_iaddn (pc := 71) (a := dd) (b := 1) dX0_run_71 ?_
  refine x_istore (pc := 72) (lv' := [(0, .ref ac), (1, .int 1), (2, .int 0), (3, .int x), (4, .int (nI dd)), (5, .int 0), (6, .int 11), (7, .int (-1)), (8, .int (nI (dd + 1)))]) dX0_run_72 (by decide) rfl ?_
  refine x_aload_n (pc := 74) dX0_run_74 rfl rfl ?_
  refine x_dup (pc := 75) dX0_run_75 rfl ?_
  refine x_get (pc := 76) dX0_run_76 kf_RX0_20 hS.1 rfl ?_
  rw [show I ac 1 = nI r from hA.1]
  refine x_iconst (pc := 79) (v := 1) dX0_run_79 (by decide) ?_
  refine x_iaddn (pc := 80) (a := r) (b := 1) dX0_run_80 ?_
  refine x_put (pc := 81) dX0_run_81 kf_RX0_20 hS.1 rfl (Or.inl kb_0_1) ?_
  refine x_aload_n (pc := 84) dX0_run_84 rfl rfl ?_
  refine x_getr (pc := 85) dX0_run_85 kf_RX0_16 hS.1 rfl hS.2.1 ?_
  refine x_iload (pc := 88) dX0_run_88 rfl ?_
  refine x_callV (pc := 90) (As := [.int _]) dX0_run_90 km_X5_add kv_X5_add kl_RX0_44 hS.2.2.1 rfl rfl (by decide) ⟨Nat.le_refl _, Nat.le_refl _⟩ rfl (Nat.le_of_ble_eq_true rfl) (Nat.le_of_ble_eq_true rfl) (c_add (x := 11) (m := r) hS.2.2 ((congrFun (up2_row (by omega)) 1).trans hA.2.2.2.2.1) (by omega) (⟨rfl, rfl, ?_⟩))
  have h0 := hA.step (x := 11) (a := 11) rfl
  have g0 := @atF.st I ac 1 r 1 (nI (r + 1)) 11 (nI (r + 1))
  refine x_iload (pc := 93) dX0_run_93 rfl ?_
  refine x_lsw (pc := 95) (dt := 362) [(10, 192), (11, 199), (12, 217), (20, 232), (30, 246), (40, 259), (50, 283), (51, 295), (60, 308), (70, 324), (71, 346)] dX0_run_95 (by decide +kernel) (by decide +kernel) (by decide) ?_
  refine xsw_c (fun h => absurd h (by decide)) (fun _ => ?_)
  refine xsw_c (fun _ => ?_) (fun h => absurd rfl h)
  refine x_aload_n (pc := 199) dX0_run_199 rfl rfl ?_
  refine x_iconst (pc := 200) (v := 0) dX0_run_200 (by decide) ?_
  refine x_aload_n (pc := 201) dX0_run_201 rfl rfl ?_
  refine x_get (pc := 202) dX0_run_202 kf_RX0_24 hS.1 rfl ?_
  rw [show _ = (0 : Int32) from h0.2.1]
  refine x_iload_n (pc := 205) dX0_run_205 rfl rfl ?_
  refine x_iload (pc := 206) dX0_run_206 rfl ?_
  refine x_callS (pc := 208) (As := [.ref _, .int _, .int _, .int _, .int _]) dX0_run_208 km_X0_run ks_X0_run kl_RX0_47 rfl (by decide) ⟨Nat.le_refl _, Nat.le_refl _⟩ rfl (Nat.le_of_ble_eq_true rfl) (Nat.le_of_ble_eq_true rfl) (c_run_0_0_0 (dd := dd + 1) hS h0 (by omega) (by omega) (fun J1 h1 f1 => ⟨rfl, rfl, ?_⟩))
  have g1 := g0.tr f1
  refine x_aload_n (pc := 211) dX0_run_211 rfl rfl ?_
  refine x_get (pc := 212) dX0_run_212 kf_RX0_27 hS.1 rfl ?_
  rw [show _ = (nI v : Int32) from h1.2.2.1]
  refine x_isub (pc := 215) dX0_run_215 ?_
  refine x_ireturn (pc := 216) dX0_run_216 ⟨_, rfl, rfl⟩ ⟨Nat.le_refl _, Nat.le_refl _⟩ ?_
  exact K _ h1 g1

set_option maxHeartbeats 4000000 in
set_option maxRecDepth 100000 in
theorem c_run_0_2_0 {T : xT} {n : Nat} {sh : Nat → Nat × Nat} {I : xI} {R : xR} {L : xL} {P : xPost} {ac v b r : Nat} {f : Nat → Nat} (hS : sh ac = (0, 0) ∧ R ac 0 = some (ac + 1) ∧ xRow sh R (ac + 1) (ac + 2) 20) {x : Int32} {dd : Nat} (hA : ATC I ac 0 v b r f) (hr : r + 3 ≤ 20) (hd : dd + 3 ≤ 20) (K : ∀ J : xI, ATC J ac 0 v b (r + 3) (apL f r [12, 11, 10]) → atF ac I J → P (n, sh, 0, 0) J R L (some (.int (((x + nI b) - nI v) * 2)))) : XM T zX0_run 3 [.ref ac, .int 2, .int 0, .int x, .int (nI dd)] n sh I R L P := by
  refine x_iload (pc := 0) dX0_run_0 rfl ?_
  refine x_bipush (pc := 2) (v := 20) dX0_run_2 (by decide) ?_
  refine x_icmpn_le_t (pc := 4) (tgt := 9) (a := dd) (b := 20) dX0_run_4 (by decide) (by omega) (by decide) (by omega) ?_
  refine x_iload_n (pc := 9) dX0_run_9 rfl rfl ?_
  refine x_istore (pc := 10) (lv' := [(0, .ref ac), (1, .int 2), (2, .int 0), (3, .int x), (4, .int (nI dd)), (5, .int 0)]) dX0_run_10 (by decide) rfl ?_
  refine x_iconst (pc := 12) (v := 0) dX0_run_12 (by decide) ?_
  refine x_istore (pc := 13) (lv' := [(0, .ref ac), (1, .int 2), (2, .int 0), (3, .int x), (4, .int (nI dd)), (5, .int 0), (6, .int 0)]) dX0_run_13 (by decide) rfl ?_
  refine x_iload (pc := 15) dX0_run_15 rfl ?_
  refine x_bipush (pc := 17) (v := 7) dX0_run_17 (by decide) ?_
  refine x_icmp_ge_f (pc := 19) (tgt := 45) dX0_run_19 (by decide) (by decide) ?_
  refine x_iload (pc := 22) dX0_run_22 rfl ?_
  refine x_iload_n (pc := 24) dX0_run_24 rfl rfl ?_
  refine x_callS (pc := 25) (As := [.int _, .int _]) dX0_run_25 km_X0_bodyOf ks_X0_bodyOf kl_RX0_36 rfl (by decide) ⟨Nat.le_refl _, Nat.le_refl _⟩ rfl (Nat.le_of_ble_eq_true rfl) (Nat.le_of_ble_eq_true rfl) (c_bodyOf_0_2 (⟨rfl, rfl, ?_⟩))
  refine x_iconst (pc := 28) (v := -1) dX0_run_28 (by decide) ?_
  refine x_icmp_ne_t (pc := 29) (tgt := 45) dX0_run_29 (by decide) (by decide) ?_
  refine x_iload (pc := 45) dX0_run_45 rfl ?_
  refine x_iload_n (pc := 47) dX0_run_47 rfl rfl ?_
  refine x_callS (pc := 48) (As := [.int _, .int _]) dX0_run_48 km_X0_bodyOf ks_X0_bodyOf kl_RX0_36 rfl (by decide) ⟨Nat.le_refl _, Nat.le_refl _⟩ rfl (Nat.le_of_ble_eq_true rfl) (Nat.le_of_ble_eq_true rfl) (c_bodyOf_0_2 (⟨rfl, rfl, ?_⟩))
  refine x_istore (pc := 51) (lv' := [(0, .ref ac), (1, .int 2), (2, .int 0), (3, .int x), (4, .int (nI dd)), (5, .int 0), (6, .int 12)]) dX0_run_51 (by decide) rfl ?_
  refine x_iload (pc := 53) dX0_run_53 rfl ?_
  refine x_iconst (pc := 55) (v := -1) dX0_run_55 (by decide) ?_
  refine x_icmp_ne_t (pc := 56) (tgt := 61) dX0_run_56 (by decide) (by decide) ?_
  refine x_iload (pc := 61) dX0_run_61 rfl ?_
  refine x_callSN (pc := 63) (As := [.int _]) dX0_run_63 km_X9_kindAbove ks_X9_kindAbove kn_RX0_40 rfl (by decide) ⟨Nat.le_refl _, Nat.le_refl _⟩ rfl (Nat.le_of_ble_eq_true rfl) (Nat.le_of_ble_eq_true rfl) (c_kindAbove (k := 0) (by decide) (⟨rfl, rfl, ?_⟩))
  rw [show kAbI 0 = (-1) from rfl]
  refine x_istore (pc := 66) (lv' := [(0, .ref ac), (1, .int 2), (2, .int 0), (3, .int x), (4, .int (nI dd)), (5, .int 0), (6, .int 12), (7, .int (-1))]) dX0_run_66 (by decide) rfl ?_
  refine x_iload (pc := 68) dX0_run_68 rfl ?_
  refine x_iconst (pc := 70) (v := 1) dX0_run_70 (by decide) ?_
  refine x_iaddn (pc := 71) (a := dd) (b := 1) dX0_run_71 ?_
  refine x_istore (pc := 72) (lv' := [(0, .ref ac), (1, .int 2), (2, .int 0), (3, .int x), (4, .int (nI dd)), (5, .int 0), (6, .int 12), (7, .int (-1)), (8, .int (nI (dd + 1)))]) dX0_run_72 (by decide) rfl ?_
  refine x_aload_n (pc := 74) dX0_run_74 rfl rfl ?_
  refine x_dup (pc := 75) dX0_run_75 rfl ?_
  refine x_get (pc := 76) dX0_run_76 kf_RX0_20 hS.1 rfl ?_
  rw [show I ac 1 = nI r from hA.1]
  refine x_iconst (pc := 79) (v := 1) dX0_run_79 (by decide) ?_
  refine x_iaddn (pc := 80) (a := r) (b := 1) dX0_run_80 ?_
  refine x_put (pc := 81) dX0_run_81 kf_RX0_20 hS.1 rfl (Or.inl kb_0_1) ?_
  refine x_aload_n (pc := 84) dX0_run_84 rfl rfl ?_
  refine x_getr (pc := 85) dX0_run_85 kf_RX0_16 hS.1 rfl hS.2.1 ?_
  refine x_iload (pc := 88) dX0_run_88 rfl ?_
  refine x_callV (pc := 90) (As := [.int _]) dX0_run_90 km_X5_add kv_X5_add kl_RX0_44 hS.2.2.1 rfl rfl (by decide) ⟨Nat.le_refl _, Nat.le_refl _⟩ rfl (Nat.le_of_ble_eq_true rfl) (Nat.le_of_ble_eq_true rfl) (c_add (x := 12) (m := r) hS.2.2 ((congrFun (up2_row (by omega)) 1).trans hA.2.2.2.2.1) (by omega) (⟨rfl, rfl, ?_⟩))
  have h0 := hA.step (x := 12) (a := 12) rfl
  have g0 := @atF.st I ac 1 r 1 (nI (r + 1)) 12 (nI (r + 1))
  refine x_iload (pc := 93) dX0_run_93 rfl ?_
  refine x_lsw (pc := 95) (dt := 362) [(10, 192), (11, 199), (12, 217), (20, 232), (30, 246), (40, 259), (50, 283), (51, 295), (60, 308), (70, 324), (71, 346)] dX0_run_95 (by decide +kernel) (by decide +kernel) (by decide) ?_
  refine xsw_c (fun h => absurd h (by decide)) (fun _ => ?_)
  refine xsw_c (fun h => absurd h (by decide)) (fun _ => ?_)
  refine xsw_c (fun _ => ?_) (fun h => absurd rfl h)
  refine x_aload_n (pc := 217) dX0_run_217 rfl rfl ?_
  refine x_iconst (pc := 218) (v := 1) dX0_run_218 (by decide) ?_
  refine x_aload_n (pc := 219) dX0_run_219 rfl rfl ?_
  refine x_get (pc := 220) dX0_run_220 kf_RX0_24 hS.1 rfl ?_
  rw [show _ = (0 : Int32) from h0.2.1]
  refine x_iload_n (pc := 223) dX0_run_223 rfl rfl ?_
  refine x_iload (pc := 224) dX0_run_224 rfl ?_
  refine x_callS (pc := 226) (As := [.ref _, .int _, .int _, .int _, .int _]) dX0_run_226 km_X0_run ks_X0_run kl_RX0_47 rfl (by decide) ⟨Nat.le_refl _, Nat.le_refl _⟩ rfl (Nat.le_of_ble_eq_true rfl) (Nat.le_of_ble_eq_true rfl) (c_run_0_1_0 (dd := dd + 1) hS h0 (by omega) (by omega) (fun J1 h1 f1 => ⟨rfl, rfl, ?_⟩))
  have g1 := g0.tr f1
  refine x_iconst (pc := 229) (v := 2) dX0_run_229 (by decide) ?_
  refine x_imul (pc := 230) dX0_run_230 ?_
  refine x_ireturn (pc := 231) dX0_run_231 ⟨_, rfl, rfl⟩ ⟨Nat.le_refl _, Nat.le_refl _⟩ ?_
  exact K _ h1 g1

set_option maxHeartbeats 4000000 in
set_option maxRecDepth 100000 in
theorem c_run_1_0_1 {T : xT} {n : Nat} {sh : Nat → Nat × Nat} {I : xI} {R : xR} {L : xL} {P : xPost} {ac v b r : Nat} {f : Nat → Nat} (hS : sh ac = (0, 0) ∧ R ac 0 = some (ac + 1) ∧ xRow sh R (ac + 1) (ac + 2) 20) {x : Int32} {dd : Nat} (hA : ATC I ac 1 v b r f) (hr : r + 1 ≤ 20) (hd : dd + 1 ≤ 20) (K : ∀ J : xI, ATC J ac 1 v b (r + 1) (apL f r [10]) → atF ac I J → P (n, sh, 0, 0) J R L (some (.int (x + nI b)))) : XM T zX0_run 1 [.ref ac, .int 0, .int 1, .int x, .int (nI dd)] n sh I R L P := by
  refine x_iload (pc := 0) dX0_run_0 rfl ?_
  refine x_bipush (pc := 2) (v := 20) dX0_run_2 (by decide) ?_
  refine x_icmpn_le_t (pc := 4) (tgt := 9) (a := dd) (b := 20) dX0_run_4 (by decide) (by omega) (by decide) (by omega) ?_
  refine x_iload_n (pc := 9) dX0_run_9 rfl rfl ?_
  refine x_istore (pc := 10) (lv' := [(0, .ref ac), (1, .int 0), (2, .int 1), (3, .int x), (4, .int (nI dd)), (5, .int 1)]) dX0_run_10 (by decide) rfl ?_
  refine x_iconst (pc := 12) (v := 0) dX0_run_12 (by decide) ?_
  refine x_istore (pc := 13) (lv' := [(0, .ref ac), (1, .int 0), (2, .int 1), (3, .int x), (4, .int (nI dd)), (5, .int 1), (6, .int 0)]) dX0_run_13 (by decide) rfl ?_
  refine x_iload (pc := 15) dX0_run_15 rfl ?_
  refine x_bipush (pc := 17) (v := 7) dX0_run_17 (by decide) ?_
  refine x_icmp_ge_f (pc := 19) (tgt := 45) dX0_run_19 (by decide) (by decide) ?_
  refine x_iload (pc := 22) dX0_run_22 rfl ?_
  refine x_iload_n (pc := 24) dX0_run_24 rfl rfl ?_
  refine x_callS (pc := 25) (As := [.int _, .int _]) dX0_run_25 km_X0_bodyOf ks_X0_bodyOf kl_RX0_36 rfl (by decide) ⟨Nat.le_refl _, Nat.le_refl _⟩ rfl (Nat.le_of_ble_eq_true rfl) (Nat.le_of_ble_eq_true rfl) (c_bodyOf_1_0 (⟨rfl, rfl, ?_⟩))
  refine x_iconst (pc := 28) (v := -1) dX0_run_28 (by decide) ?_
  refine x_icmp_ne_f (pc := 29) (tgt := 45) dX0_run_29 (by decide) (by decide) ?_
  refine x_iload (pc := 32) dX0_run_32 rfl ?_
  refine x_callSN (pc := 34) (As := [.int _]) dX0_run_34 km_X9_kindAbove ks_X9_kindAbove kn_RX0_40 rfl (by decide) ⟨Nat.le_refl _, Nat.le_refl _⟩ rfl (Nat.le_of_ble_eq_true rfl) (Nat.le_of_ble_eq_true rfl) (c_kindAbove (k := 1) (by decide) (⟨rfl, rfl, ?_⟩))
  rw [show kAbI 1 = 0 from rfl]
  refine x_istore (pc := 37) (lv' := [(0, .ref ac), (1, .int 0), (2, .int 1), (3, .int x), (4, .int (nI dd)), (5, .int 0), (6, .int 0)]) dX0_run_37 (by decide) rfl ?_
  refine x_iinc (pc := 39) (v := 1) (lv' := [(0, .ref ac), (1, .int 0), (2, .int 1), (3, .int x), (4, .int (nI dd)), (5, .int 0), (6, .int 1)]) dX0_run_39 rfl (by decide) (by decide) rfl ?_
  refine x_goto (pc := 42) (tgt := 15) dX0_run_42 (by decide) ?_
  refine x_iload (pc := 15) dX0_run_15 rfl ?_
  refine x_bipush (pc := 17) (v := 7) dX0_run_17 (by decide) ?_
  refine x_icmp_ge_f (pc := 19) (tgt := 45) dX0_run_19 (by decide) (by decide) ?_
  refine x_iload (pc := 22) dX0_run_22 rfl ?_
  refine x_iload_n (pc := 24) dX0_run_24 rfl rfl ?_
  refine x_callS (pc := 25) (As := [.int _, .int _]) dX0_run_25 km_X0_bodyOf ks_X0_bodyOf kl_RX0_36 rfl (by decide) ⟨Nat.le_refl _, Nat.le_refl _⟩ rfl (Nat.le_of_ble_eq_true rfl) (Nat.le_of_ble_eq_true rfl) (c_bodyOf_0_0 (⟨rfl, rfl, ?_⟩))
  refine x_iconst (pc := 28) (v := -1) dX0_run_28 (by decide) ?_
  refine x_icmp_ne_t (pc := 29) (tgt := 45) dX0_run_29 (by decide) (by decide) ?_
  refine x_iload (pc := 45) dX0_run_45 rfl ?_
  refine x_iload_n (pc := 47) dX0_run_47 rfl rfl ?_
  refine x_callS (pc := 48) (As := [.int _, .int _]) dX0_run_48 km_X0_bodyOf ks_X0_bodyOf kl_RX0_36 rfl (by decide) ⟨Nat.le_refl _, Nat.le_refl _⟩ rfl (Nat.le_of_ble_eq_true rfl) (Nat.le_of_ble_eq_true rfl) (c_bodyOf_0_0 (⟨rfl, rfl, ?_⟩))
  refine x_istore (pc := 51) (lv' := [(0, .ref ac), (1, .int 0), (2, .int 1), (3, .int x), (4, .int (nI dd)), (5, .int 0), (6, .int 10)]) dX0_run_51 (by decide) rfl ?_
  refine x_iload (pc := 53) dX0_run_53 rfl ?_
  refine x_iconst (pc := 55) (v := -1) dX0_run_55 (by decide) ?_
  refine x_icmp_ne_t (pc := 56) (tgt := 61) dX0_run_56 (by decide) (by decide) ?_
  refine x_iload (pc := 61) dX0_run_61 rfl ?_
  refine x_callSN (pc := 63) (As := [.int _]) dX0_run_63 km_X9_kindAbove ks_X9_kindAbove kn_RX0_40 rfl (by decide) ⟨Nat.le_refl _, Nat.le_refl _⟩ rfl (Nat.le_of_ble_eq_true rfl) (Nat.le_of_ble_eq_true rfl) (c_kindAbove (k := 0) (by decide) (⟨rfl, rfl, ?_⟩))
  rw [show kAbI 0 = (-1) from rfl]
  refine x_istore (pc := 66) (lv' := [(0, .ref ac), (1, .int 0), (2, .int 1), (3, .int x), (4, .int (nI dd)), (5, .int 0), (6, .int 10), (7, .int (-1))]) dX0_run_66 (by decide) rfl ?_
  refine x_iload (pc := 68) dX0_run_68 rfl ?_
  refine x_iconst (pc := 70) (v := 1) dX0_run_70 (by decide) ?_
  refine x_iaddn (pc := 71) (a := dd) (b := 1) dX0_run_71 ?_
  refine x_istore (pc := 72) (lv' := [(0, .ref ac), (1, .int 0), (2, .int 1), (3, .int x), (4, .int (nI dd)), (5, .int 0), (6, .int 10), (7, .int (-1)), (8, .int (nI (dd + 1)))]) dX0_run_72 (by decide) rfl ?_
  refine x_aload_n (pc := 74) dX0_run_74 rfl rfl ?_
  refine x_dup (pc := 75) dX0_run_75 rfl ?_
  refine x_get (pc := 76) dX0_run_76 kf_RX0_20 hS.1 rfl ?_
  rw [show I ac 1 = nI r from hA.1]
  refine x_iconst (pc := 79) (v := 1) dX0_run_79 (by decide) ?_
  refine x_iaddn (pc := 80) (a := r) (b := 1) dX0_run_80 ?_
  refine x_put (pc := 81) dX0_run_81 kf_RX0_20 hS.1 rfl (Or.inl kb_0_1) ?_
  refine x_aload_n (pc := 84) dX0_run_84 rfl rfl ?_
  refine x_getr (pc := 85) dX0_run_85 kf_RX0_16 hS.1 rfl hS.2.1 ?_
  refine x_iload (pc := 88) dX0_run_88 rfl ?_
  refine x_callV (pc := 90) (As := [.int _]) dX0_run_90 km_X5_add kv_X5_add kl_RX0_44 hS.2.2.1 rfl rfl (by decide) ⟨Nat.le_refl _, Nat.le_refl _⟩ rfl (Nat.le_of_ble_eq_true rfl) (Nat.le_of_ble_eq_true rfl) (c_add (x := 10) (m := r) hS.2.2 ((congrFun (up2_row (by omega)) 1).trans hA.2.2.2.2.1) (by omega) (⟨rfl, rfl, ?_⟩))
  have h0 := hA.step (x := 10) (a := 10) rfl
  have g0 := @atF.st I ac 1 r 1 (nI (r + 1)) 10 (nI (r + 1))
  refine x_iload (pc := 93) dX0_run_93 rfl ?_
  refine x_lsw (pc := 95) (dt := 362) [(10, 192), (11, 199), (12, 217), (20, 232), (30, 246), (40, 259), (50, 283), (51, 295), (60, 308), (70, 324), (71, 346)] dX0_run_95 (by decide +kernel) (by decide +kernel) (by decide) ?_
  refine xsw_c (fun _ => ?_) (fun h => absurd rfl h)
  refine x_iload_n (pc := 192) dX0_run_192 rfl rfl ?_
  refine x_aload_n (pc := 193) dX0_run_193 rfl rfl ?_
  refine x_get (pc := 194) dX0_run_194 kf_RX0_30 hS.1 rfl ?_
  rw [show _ = (nI b : Int32) from h0.2.2.2.1]
  refine x_iadd (pc := 197) dX0_run_197 ?_
  refine x_ireturn (pc := 198) dX0_run_198 ⟨_, rfl, rfl⟩ ⟨Nat.le_refl _, Nat.le_refl _⟩ ?_
  exact K _ h0 g0

set_option maxHeartbeats 4000000 in
set_option maxRecDepth 100000 in
theorem c_run_1_1_0 {T : xT} {n : Nat} {sh : Nat → Nat × Nat} {I : xI} {R : xR} {L : xL} {P : xPost} {ac v b r : Nat} {f : Nat → Nat} (hS : sh ac = (0, 0) ∧ R ac 0 = some (ac + 1) ∧ xRow sh R (ac + 1) (ac + 2) 20) {x : Int32} {dd : Nat} (hA : ATC I ac 1 v b r f) (hr : r + 2 ≤ 20) (hd : dd + 2 ≤ 20) (K : ∀ J : xI, ATC J ac 1 v b (r + 2) (apL f r [11, 10]) → atF ac I J → P (n, sh, 0, 0) J R L (some (.int ((x + nI b) - nI v)))) : XM T zX0_run 2 [.ref ac, .int 1, .int 0, .int x, .int (nI dd)] n sh I R L P := by
  refine x_iload (pc := 0) dX0_run_0 rfl ?_
  refine x_bipush (pc := 2) (v := 20) dX0_run_2 (by decide) ?_
  refine x_icmpn_le_t (pc := 4) (tgt := 9) (a := dd) (b := 20) dX0_run_4 (by decide) (by omega) (by decide) (by omega) ?_
  refine x_iload_n (pc := 9) dX0_run_9 rfl rfl ?_
  refine x_istore (pc := 10) (lv' := [(0, .ref ac), (1, .int 1), (2, .int 0), (3, .int x), (4, .int (nI dd)), (5, .int 0)]) dX0_run_10 (by decide) rfl ?_
  refine x_iconst (pc := 12) (v := 0) dX0_run_12 (by decide) ?_
  refine x_istore (pc := 13) (lv' := [(0, .ref ac), (1, .int 1), (2, .int 0), (3, .int x), (4, .int (nI dd)), (5, .int 0), (6, .int 0)]) dX0_run_13 (by decide) rfl ?_
  refine x_iload (pc := 15) dX0_run_15 rfl ?_
  refine x_bipush (pc := 17) (v := 7) dX0_run_17 (by decide) ?_
  refine x_icmp_ge_f (pc := 19) (tgt := 45) dX0_run_19 (by decide) (by decide) ?_
  refine x_iload (pc := 22) dX0_run_22 rfl ?_
  refine x_iload_n (pc := 24) dX0_run_24 rfl rfl ?_
  refine x_callS (pc := 25) (As := [.int _, .int _]) dX0_run_25 km_X0_bodyOf ks_X0_bodyOf kl_RX0_36 rfl (by decide) ⟨Nat.le_refl _, Nat.le_refl _⟩ rfl (Nat.le_of_ble_eq_true rfl) (Nat.le_of_ble_eq_true rfl) (c_bodyOf_0_1 (⟨rfl, rfl, ?_⟩))
  refine x_iconst (pc := 28) (v := -1) dX0_run_28 (by decide) ?_
  refine x_icmp_ne_t (pc := 29) (tgt := 45) dX0_run_29 (by decide) (by decide) ?_
  refine x_iload (pc := 45) dX0_run_45 rfl ?_
  refine x_iload_n (pc := 47) dX0_run_47 rfl rfl ?_
  refine x_callS (pc := 48) (As := [.int _, .int _]) dX0_run_48 km_X0_bodyOf ks_X0_bodyOf kl_RX0_36 rfl (by decide) ⟨Nat.le_refl _, Nat.le_refl _⟩ rfl (Nat.le_of_ble_eq_true rfl) (Nat.le_of_ble_eq_true rfl) (c_bodyOf_0_1 (⟨rfl, rfl, ?_⟩))
  refine x_istore (pc := 51) (lv' := [(0, .ref ac), (1, .int 1), (2, .int 0), (3, .int x), (4, .int (nI dd)), (5, .int 0), (6, .int 11)]) dX0_run_51 (by decide) rfl ?_
  refine x_iload (pc := 53) dX0_run_53 rfl ?_
  refine x_iconst (pc := 55) (v := -1) dX0_run_55 (by decide) ?_
  refine x_icmp_ne_t (pc := 56) (tgt := 61) dX0_run_56 (by decide) (by decide) ?_
  refine x_iload (pc := 61) dX0_run_61 rfl ?_
  refine x_callSN (pc := 63) (As := [.int _]) dX0_run_63 km_X9_kindAbove ks_X9_kindAbove kn_RX0_40 rfl (by decide) ⟨Nat.le_refl _, Nat.le_refl _⟩ rfl (Nat.le_of_ble_eq_true rfl) (Nat.le_of_ble_eq_true rfl) (c_kindAbove (k := 0) (by decide) (⟨rfl, rfl, ?_⟩))
  rw [show kAbI 0 = (-1) from rfl]
  refine x_istore (pc := 66) (lv' := [(0, .ref ac), (1, .int 1), (2, .int 0), (3, .int x), (4, .int (nI dd)), (5, .int 0), (6, .int 11), (7, .int (-1))]) dX0_run_66 (by decide) rfl ?_
  refine x_iload (pc := 68) dX0_run_68 rfl ?_
  refine x_iconst (pc := 70) (v := 1) dX0_run_70 (by decide) ?_
  refine x_iaddn (pc := 71) (a := dd) (b := 1) dX0_run_71 ?_
  refine x_istore (pc := 72) (lv' := [(0, .ref ac), (1, .int 1), (2, .int 0), (3, .int x), (4, .int (nI dd)), (5, .int 0), (6, .int 11), (7, .int (-1)), (8, .int (nI (dd + 1)))]) dX0_run_72 (by decide) rfl ?_
  refine x_aload_n (pc := 74) dX0_run_74 rfl rfl ?_
  refine x_dup (pc := 75) dX0_run_75 rfl ?_
  refine x_get (pc := 76) dX0_run_76 kf_RX0_20 hS.1 rfl ?_
  rw [show I ac 1 = nI r from hA.1]
  refine x_iconst (pc := 79) (v := 1) dX0_run_79 (by decide) ?_
  refine x_iaddn (pc := 80) (a := r) (b := 1) dX0_run_80 ?_
  refine x_put (pc := 81) dX0_run_81 kf_RX0_20 hS.1 rfl (Or.inl kb_0_1) ?_
  refine x_aload_n (pc := 84) dX0_run_84 rfl rfl ?_
  refine x_getr (pc := 85) dX0_run_85 kf_RX0_16 hS.1 rfl hS.2.1 ?_
  refine x_iload (pc := 88) dX0_run_88 rfl ?_
  refine x_callV (pc := 90) (As := [.int _]) dX0_run_90 km_X5_add kv_X5_add kl_RX0_44 hS.2.2.1 rfl rfl (by decide) ⟨Nat.le_refl _, Nat.le_refl _⟩ rfl (Nat.le_of_ble_eq_true rfl) (Nat.le_of_ble_eq_true rfl) (c_add (x := 11) (m := r) hS.2.2 ((congrFun (up2_row (by omega)) 1).trans hA.2.2.2.2.1) (by omega) (⟨rfl, rfl, ?_⟩))
  have h0 := hA.step (x := 11) (a := 11) rfl
  have g0 := @atF.st I ac 1 r 1 (nI (r + 1)) 11 (nI (r + 1))
  refine x_iload (pc := 93) dX0_run_93 rfl ?_
  refine x_lsw (pc := 95) (dt := 362) [(10, 192), (11, 199), (12, 217), (20, 232), (30, 246), (40, 259), (50, 283), (51, 295), (60, 308), (70, 324), (71, 346)] dX0_run_95 (by decide +kernel) (by decide +kernel) (by decide) ?_
  refine xsw_c (fun h => absurd h (by decide)) (fun _ => ?_)
  refine xsw_c (fun _ => ?_) (fun h => absurd rfl h)
  refine x_aload_n (pc := 199) dX0_run_199 rfl rfl ?_
  refine x_iconst (pc := 200) (v := 0) dX0_run_200 (by decide) ?_
  refine x_aload_n (pc := 201) dX0_run_201 rfl rfl ?_
  refine x_get (pc := 202) dX0_run_202 kf_RX0_24 hS.1 rfl ?_
  rw [show _ = (1 : Int32) from h0.2.1]
  refine x_iload_n (pc := 205) dX0_run_205 rfl rfl ?_
  refine x_iload (pc := 206) dX0_run_206 rfl ?_
  refine x_callS (pc := 208) (As := [.ref _, .int _, .int _, .int _, .int _]) dX0_run_208 km_X0_run ks_X0_run kl_RX0_47 rfl (by decide) ⟨Nat.le_refl _, Nat.le_refl _⟩ rfl (Nat.le_of_ble_eq_true rfl) (Nat.le_of_ble_eq_true rfl) (c_run_1_0_1 (dd := dd + 1) hS h0 (by omega) (by omega) (fun J1 h1 f1 => ⟨rfl, rfl, ?_⟩))
  have g1 := g0.tr f1
  refine x_aload_n (pc := 211) dX0_run_211 rfl rfl ?_
  refine x_get (pc := 212) dX0_run_212 kf_RX0_27 hS.1 rfl ?_
  rw [show _ = (nI v : Int32) from h1.2.2.1]
  refine x_isub (pc := 215) dX0_run_215 ?_
  refine x_ireturn (pc := 216) dX0_run_216 ⟨_, rfl, rfl⟩ ⟨Nat.le_refl _, Nat.le_refl _⟩ ?_
  exact K _ h1 g1

set_option maxHeartbeats 4000000 in
set_option maxRecDepth 100000 in
theorem c_run_1_1_1 {T : xT} {n : Nat} {sh : Nat → Nat × Nat} {I : xI} {R : xR} {L : xL} {P : xPost} {ac v b r : Nat} {f : Nat → Nat} (hS : sh ac = (0, 0) ∧ R ac 0 = some (ac + 1) ∧ xRow sh R (ac + 1) (ac + 2) 20) {x : Int32} {dd : Nat} (hA : ATC I ac 1 v b r f) (hr : r + 3 ≤ 20) (hd : dd + 3 ≤ 20) (K : ∀ J : xI, ATC J ac 1 v b (r + 3) (apL f r [20, 11, 10]) → atF ac I J → P (n, sh, 0, 0) J R L (some (.int (((x + nI b) - nI v) ^^^ 6)))) : XM T zX0_run 3 [.ref ac, .int 1, .int 1, .int x, .int (nI dd)] n sh I R L P := by
  refine x_iload (pc := 0) dX0_run_0 rfl ?_
  refine x_bipush (pc := 2) (v := 20) dX0_run_2 (by decide) ?_
  refine x_icmpn_le_t (pc := 4) (tgt := 9) (a := dd) (b := 20) dX0_run_4 (by decide) (by omega) (by decide) (by omega) ?_
  refine x_iload_n (pc := 9) dX0_run_9 rfl rfl ?_
  refine x_istore (pc := 10) (lv' := [(0, .ref ac), (1, .int 1), (2, .int 1), (3, .int x), (4, .int (nI dd)), (5, .int 1)]) dX0_run_10 (by decide) rfl ?_
  refine x_iconst (pc := 12) (v := 0) dX0_run_12 (by decide) ?_
  refine x_istore (pc := 13) (lv' := [(0, .ref ac), (1, .int 1), (2, .int 1), (3, .int x), (4, .int (nI dd)), (5, .int 1), (6, .int 0)]) dX0_run_13 (by decide) rfl ?_
  refine x_iload (pc := 15) dX0_run_15 rfl ?_
  refine x_bipush (pc := 17) (v := 7) dX0_run_17 (by decide) ?_
  refine x_icmp_ge_f (pc := 19) (tgt := 45) dX0_run_19 (by decide) (by decide) ?_
  refine x_iload (pc := 22) dX0_run_22 rfl ?_
  refine x_iload_n (pc := 24) dX0_run_24 rfl rfl ?_
  refine x_callS (pc := 25) (As := [.int _, .int _]) dX0_run_25 km_X0_bodyOf ks_X0_bodyOf kl_RX0_36 rfl (by decide) ⟨Nat.le_refl _, Nat.le_refl _⟩ rfl (Nat.le_of_ble_eq_true rfl) (Nat.le_of_ble_eq_true rfl) (c_bodyOf_1_1 (⟨rfl, rfl, ?_⟩))
  refine x_iconst (pc := 28) (v := -1) dX0_run_28 (by decide) ?_
  refine x_icmp_ne_t (pc := 29) (tgt := 45) dX0_run_29 (by decide) (by decide) ?_
  refine x_iload (pc := 45) dX0_run_45 rfl ?_
  refine x_iload_n (pc := 47) dX0_run_47 rfl rfl ?_
  refine x_callS (pc := 48) (As := [.int _, .int _]) dX0_run_48 km_X0_bodyOf ks_X0_bodyOf kl_RX0_36 rfl (by decide) ⟨Nat.le_refl _, Nat.le_refl _⟩ rfl (Nat.le_of_ble_eq_true rfl) (Nat.le_of_ble_eq_true rfl) (c_bodyOf_1_1 (⟨rfl, rfl, ?_⟩))
  refine x_istore (pc := 51) (lv' := [(0, .ref ac), (1, .int 1), (2, .int 1), (3, .int x), (4, .int (nI dd)), (5, .int 1), (6, .int 20)]) dX0_run_51 (by decide) rfl ?_
  refine x_iload (pc := 53) dX0_run_53 rfl ?_
  refine x_iconst (pc := 55) (v := -1) dX0_run_55 (by decide) ?_
  refine x_icmp_ne_t (pc := 56) (tgt := 61) dX0_run_56 (by decide) (by decide) ?_
  refine x_iload (pc := 61) dX0_run_61 rfl ?_
  refine x_callSN (pc := 63) (As := [.int _]) dX0_run_63 km_X9_kindAbove ks_X9_kindAbove kn_RX0_40 rfl (by decide) ⟨Nat.le_refl _, Nat.le_refl _⟩ rfl (Nat.le_of_ble_eq_true rfl) (Nat.le_of_ble_eq_true rfl) (c_kindAbove (k := 1) (by decide) (⟨rfl, rfl, ?_⟩))
  rw [show kAbI 1 = 0 from rfl]
  refine x_istore (pc := 66) (lv' := [(0, .ref ac), (1, .int 1), (2, .int 1), (3, .int x), (4, .int (nI dd)), (5, .int 1), (6, .int 20), (7, .int 0)]) dX0_run_66 (by decide) rfl ?_
  refine x_iload (pc := 68) dX0_run_68 rfl ?_
  refine x_iconst (pc := 70) (v := 1) dX0_run_70 (by decide) ?_
  refine x_iaddn (pc := 71) (a := dd) (b := 1) dX0_run_71 ?_
  refine x_istore (pc := 72) (lv' := [(0, .ref ac), (1, .int 1), (2, .int 1), (3, .int x), (4, .int (nI dd)), (5, .int 1), (6, .int 20), (7, .int 0), (8, .int (nI (dd + 1)))]) dX0_run_72 (by decide) rfl ?_
  refine x_aload_n (pc := 74) dX0_run_74 rfl rfl ?_
  refine x_dup (pc := 75) dX0_run_75 rfl ?_
  refine x_get (pc := 76) dX0_run_76 kf_RX0_20 hS.1 rfl ?_
  rw [show I ac 1 = nI r from hA.1]
  refine x_iconst (pc := 79) (v := 1) dX0_run_79 (by decide) ?_
  refine x_iaddn (pc := 80) (a := r) (b := 1) dX0_run_80 ?_
  refine x_put (pc := 81) dX0_run_81 kf_RX0_20 hS.1 rfl (Or.inl kb_0_1) ?_
  refine x_aload_n (pc := 84) dX0_run_84 rfl rfl ?_
  refine x_getr (pc := 85) dX0_run_85 kf_RX0_16 hS.1 rfl hS.2.1 ?_
  refine x_iload (pc := 88) dX0_run_88 rfl ?_
  refine x_callV (pc := 90) (As := [.int _]) dX0_run_90 km_X5_add kv_X5_add kl_RX0_44 hS.2.2.1 rfl rfl (by decide) ⟨Nat.le_refl _, Nat.le_refl _⟩ rfl (Nat.le_of_ble_eq_true rfl) (Nat.le_of_ble_eq_true rfl) (c_add (x := 20) (m := r) hS.2.2 ((congrFun (up2_row (by omega)) 1).trans hA.2.2.2.2.1) (by omega) (⟨rfl, rfl, ?_⟩))
  have h0 := hA.step (x := 20) (a := 20) rfl
  have g0 := @atF.st I ac 1 r 1 (nI (r + 1)) 20 (nI (r + 1))
  refine x_iload (pc := 93) dX0_run_93 rfl ?_
  refine x_lsw (pc := 95) (dt := 362) [(10, 192), (11, 199), (12, 217), (20, 232), (30, 246), (40, 259), (50, 283), (51, 295), (60, 308), (70, 324), (71, 346)] dX0_run_95 (by decide +kernel) (by decide +kernel) (by decide) ?_
  refine xsw_c (fun h => absurd h (by decide)) (fun _ => ?_)
  refine xsw_c (fun h => absurd h (by decide)) (fun _ => ?_)
  refine xsw_c (fun h => absurd h (by decide)) (fun _ => ?_)
  refine xsw_c (fun _ => ?_) (fun h => absurd rfl h)
  refine x_aload_n (pc := 232) dX0_run_232 rfl rfl ?_
  refine x_iconst (pc := 233) (v := 1) dX0_run_233 (by decide) ?_
  refine x_iload (pc := 234) dX0_run_234 rfl ?_
  refine x_iload_n (pc := 236) dX0_run_236 rfl rfl ?_
  refine x_iload (pc := 237) dX0_run_237 rfl ?_
  refine x_callS (pc := 239) (As := [.ref _, .int _, .int _, .int _, .int _]) dX0_run_239 km_X0_run ks_X0_run kl_RX0_47 rfl (by decide) ⟨Nat.le_refl _, Nat.le_refl _⟩ rfl (Nat.le_of_ble_eq_true rfl) (Nat.le_of_ble_eq_true rfl) (c_run_1_1_0 (dd := dd + 1) hS h0 (by omega) (by omega) (fun J1 h1 f1 => ⟨rfl, rfl, ?_⟩))
  have g1 := g0.tr f1
  refine x_bipush (pc := 242) (v := 6) dX0_run_242 (by decide) ?_
  refine x_ixor (pc := 244) dX0_run_244 ?_
  refine x_ireturn (pc := 245) dX0_run_245 ⟨_, rfl, rfl⟩ ⟨Nat.le_refl _, Nat.le_refl _⟩ ?_
  exact K _ h1 g1

set_option maxHeartbeats 4000000 in
set_option maxRecDepth 100000 in
theorem c_run_1_2_1 {T : xT} {n : Nat} {sh : Nat → Nat × Nat} {I : xI} {R : xR} {L : xL} {P : xPost} {ac v b r : Nat} {f : Nat → Nat} (hS : sh ac = (0, 0) ∧ R ac 0 = some (ac + 1) ∧ xRow sh R (ac + 1) (ac + 2) 20) {x : Int32} {dd : Nat} (hA : ATC I ac 1 v b r f) (hr : r + 4 ≤ 20) (hd : dd + 4 ≤ 20) (K : ∀ J : xI, ATC J ac 1 v b (r + 4) (apL f r [12, 20, 11, 10]) → atF ac I J → P (n, sh, 0, 0) J R L (some (.int ((((x + nI b) - nI v) ^^^ 6) * 2)))) : XM T zX0_run 4 [.ref ac, .int 2, .int 1, .int x, .int (nI dd)] n sh I R L P := by
  refine x_iload (pc := 0) dX0_run_0 rfl ?_
  refine x_bipush (pc := 2) (v := 20) dX0_run_2 (by decide) ?_
  refine x_icmpn_le_t (pc := 4) (tgt := 9) (a := dd) (b := 20) dX0_run_4 (by decide) (by omega) (by decide) (by omega) ?_
  refine x_iload_n (pc := 9) dX0_run_9 rfl rfl ?_
  refine x_istore (pc := 10) (lv' := [(0, .ref ac), (1, .int 2), (2, .int 1), (3, .int x), (4, .int (nI dd)), (5, .int 1)]) dX0_run_10 (by decide) rfl ?_
  refine x_iconst (pc := 12) (v := 0) dX0_run_12 (by decide) ?_
  refine x_istore (pc := 13) (lv' := [(0, .ref ac), (1, .int 2), (2, .int 1), (3, .int x), (4, .int (nI dd)), (5, .int 1), (6, .int 0)]) dX0_run_13 (by decide) rfl ?_
  refine x_iload (pc := 15) dX0_run_15 rfl ?_
  refine x_bipush (pc := 17) (v := 7) dX0_run_17 (by decide) ?_
  refine x_icmp_ge_f (pc := 19) (tgt := 45) dX0_run_19 (by decide) (by decide) ?_
  refine x_iload (pc := 22) dX0_run_22 rfl ?_
  refine x_iload_n (pc := 24) dX0_run_24 rfl rfl ?_
  refine x_callS (pc := 25) (As := [.int _, .int _]) dX0_run_25 km_X0_bodyOf ks_X0_bodyOf kl_RX0_36 rfl (by decide) ⟨Nat.le_refl _, Nat.le_refl _⟩ rfl (Nat.le_of_ble_eq_true rfl) (Nat.le_of_ble_eq_true rfl) (c_bodyOf_1_2 (⟨rfl, rfl, ?_⟩))
  refine x_iconst (pc := 28) (v := -1) dX0_run_28 (by decide) ?_
  refine x_icmp_ne_f (pc := 29) (tgt := 45) dX0_run_29 (by decide) (by decide) ?_
  refine x_iload (pc := 32) dX0_run_32 rfl ?_
  refine x_callSN (pc := 34) (As := [.int _]) dX0_run_34 km_X9_kindAbove ks_X9_kindAbove kn_RX0_40 rfl (by decide) ⟨Nat.le_refl _, Nat.le_refl _⟩ rfl (Nat.le_of_ble_eq_true rfl) (Nat.le_of_ble_eq_true rfl) (c_kindAbove (k := 1) (by decide) (⟨rfl, rfl, ?_⟩))
  rw [show kAbI 1 = 0 from rfl]
  refine x_istore (pc := 37) (lv' := [(0, .ref ac), (1, .int 2), (2, .int 1), (3, .int x), (4, .int (nI dd)), (5, .int 0), (6, .int 0)]) dX0_run_37 (by decide) rfl ?_
  refine x_iinc (pc := 39) (v := 1) (lv' := [(0, .ref ac), (1, .int 2), (2, .int 1), (3, .int x), (4, .int (nI dd)), (5, .int 0), (6, .int 1)]) dX0_run_39 rfl (by decide) (by decide) rfl ?_
  refine x_goto (pc := 42) (tgt := 15) dX0_run_42 (by decide) ?_
  refine x_iload (pc := 15) dX0_run_15 rfl ?_
  refine x_bipush (pc := 17) (v := 7) dX0_run_17 (by decide) ?_
  refine x_icmp_ge_f (pc := 19) (tgt := 45) dX0_run_19 (by decide) (by decide) ?_
  refine x_iload (pc := 22) dX0_run_22 rfl ?_
  refine x_iload_n (pc := 24) dX0_run_24 rfl rfl ?_
  refine x_callS (pc := 25) (As := [.int _, .int _]) dX0_run_25 km_X0_bodyOf ks_X0_bodyOf kl_RX0_36 rfl (by decide) ⟨Nat.le_refl _, Nat.le_refl _⟩ rfl (Nat.le_of_ble_eq_true rfl) (Nat.le_of_ble_eq_true rfl) (c_bodyOf_0_2 (⟨rfl, rfl, ?_⟩))
  refine x_iconst (pc := 28) (v := -1) dX0_run_28 (by decide) ?_
  refine x_icmp_ne_t (pc := 29) (tgt := 45) dX0_run_29 (by decide) (by decide) ?_
  refine x_iload (pc := 45) dX0_run_45 rfl ?_
  refine x_iload_n (pc := 47) dX0_run_47 rfl rfl ?_
  refine x_callS (pc := 48) (As := [.int _, .int _]) dX0_run_48 km_X0_bodyOf ks_X0_bodyOf kl_RX0_36 rfl (by decide) ⟨Nat.le_refl _, Nat.le_refl _⟩ rfl (Nat.le_of_ble_eq_true rfl) (Nat.le_of_ble_eq_true rfl) (c_bodyOf_0_2 (⟨rfl, rfl, ?_⟩))
  refine x_istore (pc := 51) (lv' := [(0, .ref ac), (1, .int 2), (2, .int 1), (3, .int x), (4, .int (nI dd)), (5, .int 0), (6, .int 12)]) dX0_run_51 (by decide) rfl ?_
  refine x_iload (pc := 53) dX0_run_53 rfl ?_
  refine x_iconst (pc := 55) (v := -1) dX0_run_55 (by decide) ?_
  refine x_icmp_ne_t (pc := 56) (tgt := 61) dX0_run_56 (by decide) (by decide) ?_
  refine x_iload (pc := 61) dX0_run_61 rfl ?_
  refine x_callSN (pc := 63) (As := [.int _]) dX0_run_63 km_X9_kindAbove ks_X9_kindAbove kn_RX0_40 rfl (by decide) ⟨Nat.le_refl _, Nat.le_refl _⟩ rfl (Nat.le_of_ble_eq_true rfl) (Nat.le_of_ble_eq_true rfl) (c_kindAbove (k := 0) (by decide) (⟨rfl, rfl, ?_⟩))
  rw [show kAbI 0 = (-1) from rfl]
  refine x_istore (pc := 66) (lv' := [(0, .ref ac), (1, .int 2), (2, .int 1), (3, .int x), (4, .int (nI dd)), (5, .int 0), (6, .int 12), (7, .int (-1))]) dX0_run_66 (by decide) rfl ?_
  refine x_iload (pc := 68) dX0_run_68 rfl ?_
  refine x_iconst (pc := 70) (v := 1) dX0_run_70 (by decide) ?_
  refine x_iaddn (pc := 71) (a := dd) (b := 1) dX0_run_71 ?_
  refine x_istore (pc := 72) (lv' := [(0, .ref ac), (1, .int 2), (2, .int 1), (3, .int x), (4, .int (nI dd)), (5, .int 0), (6, .int 12), (7, .int (-1)), (8, .int (nI (dd + 1)))]) dX0_run_72 (by decide) rfl ?_
  refine x_aload_n (pc := 74) dX0_run_74 rfl rfl ?_
  refine x_dup (pc := 75) dX0_run_75 rfl ?_
  refine x_get (pc := 76) dX0_run_76 kf_RX0_20 hS.1 rfl ?_
  rw [show I ac 1 = nI r from hA.1]
  refine x_iconst (pc := 79) (v := 1) dX0_run_79 (by decide) ?_
  refine x_iaddn (pc := 80) (a := r) (b := 1) dX0_run_80 ?_
  refine x_put (pc := 81) dX0_run_81 kf_RX0_20 hS.1 rfl (Or.inl kb_0_1) ?_
  refine x_aload_n (pc := 84) dX0_run_84 rfl rfl ?_
  refine x_getr (pc := 85) dX0_run_85 kf_RX0_16 hS.1 rfl hS.2.1 ?_
  refine x_iload (pc := 88) dX0_run_88 rfl ?_
  refine x_callV (pc := 90) (As := [.int _]) dX0_run_90 km_X5_add kv_X5_add kl_RX0_44 hS.2.2.1 rfl rfl (by decide) ⟨Nat.le_refl _, Nat.le_refl _⟩ rfl (Nat.le_of_ble_eq_true rfl) (Nat.le_of_ble_eq_true rfl) (c_add (x := 12) (m := r) hS.2.2 ((congrFun (up2_row (by omega)) 1).trans hA.2.2.2.2.1) (by omega) (⟨rfl, rfl, ?_⟩))
  have h0 := hA.step (x := 12) (a := 12) rfl
  have g0 := @atF.st I ac 1 r 1 (nI (r + 1)) 12 (nI (r + 1))
  refine x_iload (pc := 93) dX0_run_93 rfl ?_
  refine x_lsw (pc := 95) (dt := 362) [(10, 192), (11, 199), (12, 217), (20, 232), (30, 246), (40, 259), (50, 283), (51, 295), (60, 308), (70, 324), (71, 346)] dX0_run_95 (by decide +kernel) (by decide +kernel) (by decide) ?_
  refine xsw_c (fun h => absurd h (by decide)) (fun _ => ?_)
  refine xsw_c (fun h => absurd h (by decide)) (fun _ => ?_)
  refine xsw_c (fun _ => ?_) (fun h => absurd rfl h)
  refine x_aload_n (pc := 217) dX0_run_217 rfl rfl ?_
  refine x_iconst (pc := 218) (v := 1) dX0_run_218 (by decide) ?_
  refine x_aload_n (pc := 219) dX0_run_219 rfl rfl ?_
  refine x_get (pc := 220) dX0_run_220 kf_RX0_24 hS.1 rfl ?_
  rw [show _ = (1 : Int32) from h0.2.1]
  refine x_iload_n (pc := 223) dX0_run_223 rfl rfl ?_
  refine x_iload (pc := 224) dX0_run_224 rfl ?_
  refine x_callS (pc := 226) (As := [.ref _, .int _, .int _, .int _, .int _]) dX0_run_226 km_X0_run ks_X0_run kl_RX0_47 rfl (by decide) ⟨Nat.le_refl _, Nat.le_refl _⟩ rfl (Nat.le_of_ble_eq_true rfl) (Nat.le_of_ble_eq_true rfl) (c_run_1_1_1 (dd := dd + 1) hS h0 (by omega) (by omega) (fun J1 h1 f1 => ⟨rfl, rfl, ?_⟩))
  have g1 := g0.tr f1
  refine x_iconst (pc := 229) (v := 2) dX0_run_229 (by decide) ?_
  refine x_imul (pc := 230) dX0_run_230 ?_
  refine x_ireturn (pc := 231) dX0_run_231 ⟨_, rfl, rfl⟩ ⟨Nat.le_refl _, Nat.le_refl _⟩ ?_
  exact K _ h1 g1

set_option maxHeartbeats 4000000 in
set_option maxRecDepth 100000 in
theorem c_run_2_0_0 {T : xT} {n : Nat} {sh : Nat → Nat × Nat} {I : xI} {R : xR} {L : xL} {P : xPost} {ac v b r : Nat} {f : Nat → Nat} (hS : sh ac = (0, 0) ∧ R ac 0 = some (ac + 1) ∧ xRow sh R (ac + 1) (ac + 2) 20) {x : Int32} {dd : Nat} (hA : ATC I ac 2 v b r f) (hr : r + 1 ≤ 20) (hd : dd + 1 ≤ 20) (K : ∀ J : xI, ATC J ac 2 v b (r + 1) (apL f r [10]) → atF ac I J → P (n, sh, 0, 0) J R L (some (.int (x + nI b)))) : XM T zX0_run 1 [.ref ac, .int 0, .int 0, .int x, .int (nI dd)] n sh I R L P := by
  refine x_iload (pc := 0) dX0_run_0 rfl ?_
  refine x_bipush (pc := 2) (v := 20) dX0_run_2 (by decide) ?_
  refine x_icmpn_le_t (pc := 4) (tgt := 9) (a := dd) (b := 20) dX0_run_4 (by decide) (by omega) (by decide) (by omega) ?_
  refine x_iload_n (pc := 9) dX0_run_9 rfl rfl ?_
  refine x_istore (pc := 10) (lv' := [(0, .ref ac), (1, .int 0), (2, .int 0), (3, .int x), (4, .int (nI dd)), (5, .int 0)]) dX0_run_10 (by decide) rfl ?_
  refine x_iconst (pc := 12) (v := 0) dX0_run_12 (by decide) ?_
  refine x_istore (pc := 13) (lv' := [(0, .ref ac), (1, .int 0), (2, .int 0), (3, .int x), (4, .int (nI dd)), (5, .int 0), (6, .int 0)]) dX0_run_13 (by decide) rfl ?_
  refine x_iload (pc := 15) dX0_run_15 rfl ?_
  refine x_bipush (pc := 17) (v := 7) dX0_run_17 (by decide) ?_
  refine x_icmp_ge_f (pc := 19) (tgt := 45) dX0_run_19 (by decide) (by decide) ?_
  refine x_iload (pc := 22) dX0_run_22 rfl ?_
  refine x_iload_n (pc := 24) dX0_run_24 rfl rfl ?_
  refine x_callS (pc := 25) (As := [.int _, .int _]) dX0_run_25 km_X0_bodyOf ks_X0_bodyOf kl_RX0_36 rfl (by decide) ⟨Nat.le_refl _, Nat.le_refl _⟩ rfl (Nat.le_of_ble_eq_true rfl) (Nat.le_of_ble_eq_true rfl) (c_bodyOf_0_0 (⟨rfl, rfl, ?_⟩))
  refine x_iconst (pc := 28) (v := -1) dX0_run_28 (by decide) ?_
  refine x_icmp_ne_t (pc := 29) (tgt := 45) dX0_run_29 (by decide) (by decide) ?_
  refine x_iload (pc := 45) dX0_run_45 rfl ?_
  refine x_iload_n (pc := 47) dX0_run_47 rfl rfl ?_
  refine x_callS (pc := 48) (As := [.int _, .int _]) dX0_run_48 km_X0_bodyOf ks_X0_bodyOf kl_RX0_36 rfl (by decide) ⟨Nat.le_refl _, Nat.le_refl _⟩ rfl (Nat.le_of_ble_eq_true rfl) (Nat.le_of_ble_eq_true rfl) (c_bodyOf_0_0 (⟨rfl, rfl, ?_⟩))
  refine x_istore (pc := 51) (lv' := [(0, .ref ac), (1, .int 0), (2, .int 0), (3, .int x), (4, .int (nI dd)), (5, .int 0), (6, .int 10)]) dX0_run_51 (by decide) rfl ?_
  refine x_iload (pc := 53) dX0_run_53 rfl ?_
  refine x_iconst (pc := 55) (v := -1) dX0_run_55 (by decide) ?_
  refine x_icmp_ne_t (pc := 56) (tgt := 61) dX0_run_56 (by decide) (by decide) ?_
  refine x_iload (pc := 61) dX0_run_61 rfl ?_
  refine x_callSN (pc := 63) (As := [.int _]) dX0_run_63 km_X9_kindAbove ks_X9_kindAbove kn_RX0_40 rfl (by decide) ⟨Nat.le_refl _, Nat.le_refl _⟩ rfl (Nat.le_of_ble_eq_true rfl) (Nat.le_of_ble_eq_true rfl) (c_kindAbove (k := 0) (by decide) (⟨rfl, rfl, ?_⟩))
  rw [show kAbI 0 = (-1) from rfl]
  refine x_istore (pc := 66) (lv' := [(0, .ref ac), (1, .int 0), (2, .int 0), (3, .int x), (4, .int (nI dd)), (5, .int 0), (6, .int 10), (7, .int (-1))]) dX0_run_66 (by decide) rfl ?_
  refine x_iload (pc := 68) dX0_run_68 rfl ?_
  refine x_iconst (pc := 70) (v := 1) dX0_run_70 (by decide) ?_
  refine x_iaddn (pc := 71) (a := dd) (b := 1) dX0_run_71 ?_
  refine x_istore (pc := 72) (lv' := [(0, .ref ac), (1, .int 0), (2, .int 0), (3, .int x), (4, .int (nI dd)), (5, .int 0), (6, .int 10), (7, .int (-1)), (8, .int (nI (dd + 1)))]) dX0_run_72 (by decide) rfl ?_
  refine x_aload_n (pc := 74) dX0_run_74 rfl rfl ?_
  refine x_dup (pc := 75) dX0_run_75 rfl ?_
  refine x_get (pc := 76) dX0_run_76 kf_RX0_20 hS.1 rfl ?_
  rw [show I ac 1 = nI r from hA.1]
  refine x_iconst (pc := 79) (v := 1) dX0_run_79 (by decide) ?_
  refine x_iaddn (pc := 80) (a := r) (b := 1) dX0_run_80 ?_
  refine x_put (pc := 81) dX0_run_81 kf_RX0_20 hS.1 rfl (Or.inl kb_0_1) ?_
  refine x_aload_n (pc := 84) dX0_run_84 rfl rfl ?_
  refine x_getr (pc := 85) dX0_run_85 kf_RX0_16 hS.1 rfl hS.2.1 ?_
  refine x_iload (pc := 88) dX0_run_88 rfl ?_
  refine x_callV (pc := 90) (As := [.int _]) dX0_run_90 km_X5_add kv_X5_add kl_RX0_44 hS.2.2.1 rfl rfl (by decide) ⟨Nat.le_refl _, Nat.le_refl _⟩ rfl (Nat.le_of_ble_eq_true rfl) (Nat.le_of_ble_eq_true rfl) (c_add (x := 10) (m := r) hS.2.2 ((congrFun (up2_row (by omega)) 1).trans hA.2.2.2.2.1) (by omega) (⟨rfl, rfl, ?_⟩))
  have h0 := hA.step (x := 10) (a := 10) rfl
  have g0 := @atF.st I ac 1 r 1 (nI (r + 1)) 10 (nI (r + 1))
  refine x_iload (pc := 93) dX0_run_93 rfl ?_
  refine x_lsw (pc := 95) (dt := 362) [(10, 192), (11, 199), (12, 217), (20, 232), (30, 246), (40, 259), (50, 283), (51, 295), (60, 308), (70, 324), (71, 346)] dX0_run_95 (by decide +kernel) (by decide +kernel) (by decide) ?_
  refine xsw_c (fun _ => ?_) (fun h => absurd rfl h)
  refine x_iload_n (pc := 192) dX0_run_192 rfl rfl ?_
  refine x_aload_n (pc := 193) dX0_run_193 rfl rfl ?_
  refine x_get (pc := 194) dX0_run_194 kf_RX0_30 hS.1 rfl ?_
  rw [show _ = (nI b : Int32) from h0.2.2.2.1]
  refine x_iadd (pc := 197) dX0_run_197 ?_
  refine x_ireturn (pc := 198) dX0_run_198 ⟨_, rfl, rfl⟩ ⟨Nat.le_refl _, Nat.le_refl _⟩ ?_
  exact K _ h0 g0

set_option maxHeartbeats 4000000 in
set_option maxRecDepth 100000 in
theorem c_run_2_0_2 {T : xT} {n : Nat} {sh : Nat → Nat × Nat} {I : xI} {R : xR} {L : xL} {P : xPost} {ac v b r : Nat} {f : Nat → Nat} (hS : sh ac = (0, 0) ∧ R ac 0 = some (ac + 1) ∧ xRow sh R (ac + 1) (ac + 2) 20) {x : Int32} {dd : Nat} (hA : ATC I ac 2 v b r f) (hr : r + 2 ≤ 20) (hd : dd + 2 ≤ 20) (K : ∀ J : xI, ATC J ac 2 v b (r + 2) (apL f r [30, 10]) → atF ac I J → P (n, sh, 0, 0) J R L (some (.int ((x * 3) + nI b)))) : XM T zX0_run 2 [.ref ac, .int 0, .int 2, .int x, .int (nI dd)] n sh I R L P := by
  refine x_iload (pc := 0) dX0_run_0 rfl ?_
  refine x_bipush (pc := 2) (v := 20) dX0_run_2 (by decide) ?_
  refine x_icmpn_le_t (pc := 4) (tgt := 9) (a := dd) (b := 20) dX0_run_4 (by decide) (by omega) (by decide) (by omega) ?_
  refine x_iload_n (pc := 9) dX0_run_9 rfl rfl ?_
  refine x_istore (pc := 10) (lv' := [(0, .ref ac), (1, .int 0), (2, .int 2), (3, .int x), (4, .int (nI dd)), (5, .int 2)]) dX0_run_10 (by decide) rfl ?_
  refine x_iconst (pc := 12) (v := 0) dX0_run_12 (by decide) ?_
  refine x_istore (pc := 13) (lv' := [(0, .ref ac), (1, .int 0), (2, .int 2), (3, .int x), (4, .int (nI dd)), (5, .int 2), (6, .int 0)]) dX0_run_13 (by decide) rfl ?_
  refine x_iload (pc := 15) dX0_run_15 rfl ?_
  refine x_bipush (pc := 17) (v := 7) dX0_run_17 (by decide) ?_
  refine x_icmp_ge_f (pc := 19) (tgt := 45) dX0_run_19 (by decide) (by decide) ?_
  refine x_iload (pc := 22) dX0_run_22 rfl ?_
  refine x_iload_n (pc := 24) dX0_run_24 rfl rfl ?_
  refine x_callS (pc := 25) (As := [.int _, .int _]) dX0_run_25 km_X0_bodyOf ks_X0_bodyOf kl_RX0_36 rfl (by decide) ⟨Nat.le_refl _, Nat.le_refl _⟩ rfl (Nat.le_of_ble_eq_true rfl) (Nat.le_of_ble_eq_true rfl) (c_bodyOf_2_0 (⟨rfl, rfl, ?_⟩))
  refine x_iconst (pc := 28) (v := -1) dX0_run_28 (by decide) ?_
  refine x_icmp_ne_t (pc := 29) (tgt := 45) dX0_run_29 (by decide) (by decide) ?_
  refine x_iload (pc := 45) dX0_run_45 rfl ?_
  refine x_iload_n (pc := 47) dX0_run_47 rfl rfl ?_
  refine x_callS (pc := 48) (As := [.int _, .int _]) dX0_run_48 km_X0_bodyOf ks_X0_bodyOf kl_RX0_36 rfl (by decide) ⟨Nat.le_refl _, Nat.le_refl _⟩ rfl (Nat.le_of_ble_eq_true rfl) (Nat.le_of_ble_eq_true rfl) (c_bodyOf_2_0 (⟨rfl, rfl, ?_⟩))
  refine x_istore (pc := 51) (lv' := [(0, .ref ac), (1, .int 0), (2, .int 2), (3, .int x), (4, .int (nI dd)), (5, .int 2), (6, .int 30)]) dX0_run_51 (by decide) rfl ?_
  refine x_iload (pc := 53) dX0_run_53 rfl ?_
  refine x_iconst (pc := 55) (v := -1) dX0_run_55 (by decide) ?_
  refine x_icmp_ne_t (pc := 56) (tgt := 61) dX0_run_56 (by decide) (by decide) ?_
  refine x_iload (pc := 61) dX0_run_61 rfl ?_
  refine x_callSN (pc := 63) (As := [.int _]) dX0_run_63 km_X9_kindAbove ks_X9_kindAbove kn_RX0_40 rfl (by decide) ⟨Nat.le_refl _, Nat.le_refl _⟩ rfl (Nat.le_of_ble_eq_true rfl) (Nat.le_of_ble_eq_true rfl) (c_kindAbove (k := 2) (by decide) (⟨rfl, rfl, ?_⟩))
  rw [show kAbI 2 = 0 from rfl]
  refine x_istore (pc := 66) (lv' := [(0, .ref ac), (1, .int 0), (2, .int 2), (3, .int x), (4, .int (nI dd)), (5, .int 2), (6, .int 30), (7, .int 0)]) dX0_run_66 (by decide) rfl ?_
  refine x_iload (pc := 68) dX0_run_68 rfl ?_
  refine x_iconst (pc := 70) (v := 1) dX0_run_70 (by decide) ?_
  refine x_iaddn (pc := 71) (a := dd) (b := 1) dX0_run_71 ?_
  refine x_istore (pc := 72) (lv' := [(0, .ref ac), (1, .int 0), (2, .int 2), (3, .int x), (4, .int (nI dd)), (5, .int 2), (6, .int 30), (7, .int 0), (8, .int (nI (dd + 1)))]) dX0_run_72 (by decide) rfl ?_
  refine x_aload_n (pc := 74) dX0_run_74 rfl rfl ?_
  refine x_dup (pc := 75) dX0_run_75 rfl ?_
  refine x_get (pc := 76) dX0_run_76 kf_RX0_20 hS.1 rfl ?_
  rw [show I ac 1 = nI r from hA.1]
  refine x_iconst (pc := 79) (v := 1) dX0_run_79 (by decide) ?_
  refine x_iaddn (pc := 80) (a := r) (b := 1) dX0_run_80 ?_
  refine x_put (pc := 81) dX0_run_81 kf_RX0_20 hS.1 rfl (Or.inl kb_0_1) ?_
  refine x_aload_n (pc := 84) dX0_run_84 rfl rfl ?_
  refine x_getr (pc := 85) dX0_run_85 kf_RX0_16 hS.1 rfl hS.2.1 ?_
  refine x_iload (pc := 88) dX0_run_88 rfl ?_
  refine x_callV (pc := 90) (As := [.int _]) dX0_run_90 km_X5_add kv_X5_add kl_RX0_44 hS.2.2.1 rfl rfl (by decide) ⟨Nat.le_refl _, Nat.le_refl _⟩ rfl (Nat.le_of_ble_eq_true rfl) (Nat.le_of_ble_eq_true rfl) (c_add (x := 30) (m := r) hS.2.2 ((congrFun (up2_row (by omega)) 1).trans hA.2.2.2.2.1) (by omega) (⟨rfl, rfl, ?_⟩))
  have h0 := hA.step (x := 30) (a := 30) rfl
  have g0 := @atF.st I ac 1 r 1 (nI (r + 1)) 30 (nI (r + 1))
  refine x_iload (pc := 93) dX0_run_93 rfl ?_
  refine x_lsw (pc := 95) (dt := 362) [(10, 192), (11, 199), (12, 217), (20, 232), (30, 246), (40, 259), (50, 283), (51, 295), (60, 308), (70, 324), (71, 346)] dX0_run_95 (by decide +kernel) (by decide +kernel) (by decide) ?_
  refine xsw_c (fun h => absurd h (by decide)) (fun _ => ?_)
  refine xsw_c (fun h => absurd h (by decide)) (fun _ => ?_)
  refine xsw_c (fun h => absurd h (by decide)) (fun _ => ?_)
  refine xsw_c (fun h => absurd h (by decide)) (fun _ => ?_)
  refine xsw_c (fun _ => ?_) (fun h => absurd rfl h)
  refine x_aload_n (pc := 246) dX0_run_246 rfl rfl ?_
  refine x_iconst (pc := 247) (v := 0) dX0_run_247 (by decide) ?_
  refine x_iload (pc := 248) dX0_run_248 rfl ?_
  refine x_iload_n (pc := 250) dX0_run_250 rfl rfl ?_
  refine x_iconst (pc := 251) (v := 3) dX0_run_251 (by decide) ?_
  refine x_imul (pc := 252) dX0_run_252 ?_
  refine x_iload (pc := 253) dX0_run_253 rfl ?_
  refine x_callS (pc := 255) (As := [.ref _, .int _, .int _, .int _, .int _]) dX0_run_255 km_X0_run ks_X0_run kl_RX0_47 rfl (by decide) ⟨Nat.le_refl _, Nat.le_refl _⟩ rfl (Nat.le_of_ble_eq_true rfl) (Nat.le_of_ble_eq_true rfl) (c_run_2_0_0 (dd := dd + 1) hS h0 (by omega) (by omega) (fun J1 h1 f1 => ⟨rfl, rfl, ?_⟩))
  have g1 := g0.tr f1
  refine x_ireturn (pc := 258) dX0_run_258 ⟨_, rfl, rfl⟩ ⟨Nat.le_refl _, Nat.le_refl _⟩ ?_
  exact K _ h1 g1

set_option maxHeartbeats 4000000 in
set_option maxRecDepth 100000 in
theorem c_run_2_1_2 {T : xT} {n : Nat} {sh : Nat → Nat × Nat} {I : xI} {R : xR} {L : xL} {P : xPost} {ac v b r : Nat} {f : Nat → Nat} (hS : sh ac = (0, 0) ∧ R ac 0 = some (ac + 1) ∧ xRow sh R (ac + 1) (ac + 2) 20) {x : Int32} {dd : Nat} (hA : ATC I ac 2 v b r f) (hr : r + 3 ≤ 20) (hd : dd + 3 ≤ 20) (K : ∀ J : xI, ATC J ac 2 v b (r + 3) (apL f r [11, 30, 10]) → atF ac I J → P (n, sh, 0, 0) J R L (some (.int (((x * 3) + nI b) - nI v)))) : XM T zX0_run 3 [.ref ac, .int 1, .int 2, .int x, .int (nI dd)] n sh I R L P := by
  refine x_iload (pc := 0) dX0_run_0 rfl ?_
  refine x_bipush (pc := 2) (v := 20) dX0_run_2 (by decide) ?_
  refine x_icmpn_le_t (pc := 4) (tgt := 9) (a := dd) (b := 20) dX0_run_4 (by decide) (by omega) (by decide) (by omega) ?_
  refine x_iload_n (pc := 9) dX0_run_9 rfl rfl ?_
  refine x_istore (pc := 10) (lv' := [(0, .ref ac), (1, .int 1), (2, .int 2), (3, .int x), (4, .int (nI dd)), (5, .int 2)]) dX0_run_10 (by decide) rfl ?_
  refine x_iconst (pc := 12) (v := 0) dX0_run_12 (by decide) ?_
  refine x_istore (pc := 13) (lv' := [(0, .ref ac), (1, .int 1), (2, .int 2), (3, .int x), (4, .int (nI dd)), (5, .int 2), (6, .int 0)]) dX0_run_13 (by decide) rfl ?_
  refine x_iload (pc := 15) dX0_run_15 rfl ?_
  refine x_bipush (pc := 17) (v := 7) dX0_run_17 (by decide) ?_
  refine x_icmp_ge_f (pc := 19) (tgt := 45) dX0_run_19 (by decide) (by decide) ?_
  refine x_iload (pc := 22) dX0_run_22 rfl ?_
  refine x_iload_n (pc := 24) dX0_run_24 rfl rfl ?_
  refine x_callS (pc := 25) (As := [.int _, .int _]) dX0_run_25 km_X0_bodyOf ks_X0_bodyOf kl_RX0_36 rfl (by decide) ⟨Nat.le_refl _, Nat.le_refl _⟩ rfl (Nat.le_of_ble_eq_true rfl) (Nat.le_of_ble_eq_true rfl) (c_bodyOf_2_1 (⟨rfl, rfl, ?_⟩))
  refine x_iconst (pc := 28) (v := -1) dX0_run_28 (by decide) ?_
  refine x_icmp_ne_f (pc := 29) (tgt := 45) dX0_run_29 (by decide) (by decide) ?_
  refine x_iload (pc := 32) dX0_run_32 rfl ?_
  refine x_callSN (pc := 34) (As := [.int _]) dX0_run_34 km_X9_kindAbove ks_X9_kindAbove kn_RX0_40 rfl (by decide) ⟨Nat.le_refl _, Nat.le_refl _⟩ rfl (Nat.le_of_ble_eq_true rfl) (Nat.le_of_ble_eq_true rfl) (c_kindAbove (k := 2) (by decide) (⟨rfl, rfl, ?_⟩))
  rw [show kAbI 2 = 0 from rfl]
  refine x_istore (pc := 37) (lv' := [(0, .ref ac), (1, .int 1), (2, .int 2), (3, .int x), (4, .int (nI dd)), (5, .int 0), (6, .int 0)]) dX0_run_37 (by decide) rfl ?_
  refine x_iinc (pc := 39) (v := 1) (lv' := [(0, .ref ac), (1, .int 1), (2, .int 2), (3, .int x), (4, .int (nI dd)), (5, .int 0), (6, .int 1)]) dX0_run_39 rfl (by decide) (by decide) rfl ?_
  refine x_goto (pc := 42) (tgt := 15) dX0_run_42 (by decide) ?_
  refine x_iload (pc := 15) dX0_run_15 rfl ?_
  refine x_bipush (pc := 17) (v := 7) dX0_run_17 (by decide) ?_
  refine x_icmp_ge_f (pc := 19) (tgt := 45) dX0_run_19 (by decide) (by decide) ?_
  refine x_iload (pc := 22) dX0_run_22 rfl ?_
  refine x_iload_n (pc := 24) dX0_run_24 rfl rfl ?_
  refine x_callS (pc := 25) (As := [.int _, .int _]) dX0_run_25 km_X0_bodyOf ks_X0_bodyOf kl_RX0_36 rfl (by decide) ⟨Nat.le_refl _, Nat.le_refl _⟩ rfl (Nat.le_of_ble_eq_true rfl) (Nat.le_of_ble_eq_true rfl) (c_bodyOf_0_1 (⟨rfl, rfl, ?_⟩))
  refine x_iconst (pc := 28) (v := -1) dX0_run_28 (by decide) ?_
  refine x_icmp_ne_t (pc := 29) (tgt := 45) dX0_run_29 (by decide) (by decide) ?_
  refine x_iload (pc := 45) dX0_run_45 rfl ?_
  refine x_iload_n (pc := 47) dX0_run_47 rfl rfl ?_
  refine x_callS (pc := 48) (As := [.int _, .int _]) dX0_run_48 km_X0_bodyOf ks_X0_bodyOf kl_RX0_36 rfl (by decide) ⟨Nat.le_refl _, Nat.le_refl _⟩ rfl (Nat.le_of_ble_eq_true rfl) (Nat.le_of_ble_eq_true rfl) (c_bodyOf_0_1 (⟨rfl, rfl, ?_⟩))
  refine x_istore (pc := 51) (lv' := [(0, .ref ac), (1, .int 1), (2, .int 2), (3, .int x), (4, .int (nI dd)), (5, .int 0), (6, .int 11)]) dX0_run_51 (by decide) rfl ?_
  refine x_iload (pc := 53) dX0_run_53 rfl ?_
  refine x_iconst (pc := 55) (v := -1) dX0_run_55 (by decide) ?_
  refine x_icmp_ne_t (pc := 56) (tgt := 61) dX0_run_56 (by decide) (by decide) ?_
  refine x_iload (pc := 61) dX0_run_61 rfl ?_
  refine x_callSN (pc := 63) (As := [.int _]) dX0_run_63 km_X9_kindAbove ks_X9_kindAbove kn_RX0_40 rfl (by decide) ⟨Nat.le_refl _, Nat.le_refl _⟩ rfl (Nat.le_of_ble_eq_true rfl) (Nat.le_of_ble_eq_true rfl) (c_kindAbove (k := 0) (by decide) (⟨rfl, rfl, ?_⟩))
  rw [show kAbI 0 = (-1) from rfl]
  refine x_istore (pc := 66) (lv' := [(0, .ref ac), (1, .int 1), (2, .int 2), (3, .int x), (4, .int (nI dd)), (5, .int 0), (6, .int 11), (7, .int (-1))]) dX0_run_66 (by decide) rfl ?_
  refine x_iload (pc := 68) dX0_run_68 rfl ?_
  refine x_iconst (pc := 70) (v := 1) dX0_run_70 (by decide) ?_
  refine x_iaddn (pc := 71) (a := dd) (b := 1) dX0_run_71 ?_
  refine x_istore (pc := 72) (lv' := [(0, .ref ac), (1, .int 1), (2, .int 2), (3, .int x), (4, .int (nI dd)), (5, .int 0), (6, .int 11), (7, .int (-1)), (8, .int (nI (dd + 1)))]) dX0_run_72 (by decide) rfl ?_
  refine x_aload_n (pc := 74) dX0_run_74 rfl rfl ?_
  refine x_dup (pc := 75) dX0_run_75 rfl ?_
  refine x_get (pc := 76) dX0_run_76 kf_RX0_20 hS.1 rfl ?_
  rw [show I ac 1 = nI r from hA.1]
  refine x_iconst (pc := 79) (v := 1) dX0_run_79 (by decide) ?_
  refine x_iaddn (pc := 80) (a := r) (b := 1) dX0_run_80 ?_
  refine x_put (pc := 81) dX0_run_81 kf_RX0_20 hS.1 rfl (Or.inl kb_0_1) ?_
  refine x_aload_n (pc := 84) dX0_run_84 rfl rfl ?_
  refine x_getr (pc := 85) dX0_run_85 kf_RX0_16 hS.1 rfl hS.2.1 ?_
  refine x_iload (pc := 88) dX0_run_88 rfl ?_
  refine x_callV (pc := 90) (As := [.int _]) dX0_run_90 km_X5_add kv_X5_add kl_RX0_44 hS.2.2.1 rfl rfl (by decide) ⟨Nat.le_refl _, Nat.le_refl _⟩ rfl (Nat.le_of_ble_eq_true rfl) (Nat.le_of_ble_eq_true rfl) (c_add (x := 11) (m := r) hS.2.2 ((congrFun (up2_row (by omega)) 1).trans hA.2.2.2.2.1) (by omega) (⟨rfl, rfl, ?_⟩))
  have h0 := hA.step (x := 11) (a := 11) rfl
  have g0 := @atF.st I ac 1 r 1 (nI (r + 1)) 11 (nI (r + 1))
  refine x_iload (pc := 93) dX0_run_93 rfl ?_
  refine x_lsw (pc := 95) (dt := 362) [(10, 192), (11, 199), (12, 217), (20, 232), (30, 246), (40, 259), (50, 283), (51, 295), (60, 308), (70, 324), (71, 346)] dX0_run_95 (by decide +kernel) (by decide +kernel) (by decide) ?_
  refine xsw_c (fun h => absurd h (by decide)) (fun _ => ?_)
  refine xsw_c (fun _ => ?_) (fun h => absurd rfl h)
  refine x_aload_n (pc := 199) dX0_run_199 rfl rfl ?_
  refine x_iconst (pc := 200) (v := 0) dX0_run_200 (by decide) ?_
  refine x_aload_n (pc := 201) dX0_run_201 rfl rfl ?_
  refine x_get (pc := 202) dX0_run_202 kf_RX0_24 hS.1 rfl ?_
  rw [show _ = (2 : Int32) from h0.2.1]
  refine x_iload_n (pc := 205) dX0_run_205 rfl rfl ?_
  refine x_iload (pc := 206) dX0_run_206 rfl ?_
  refine x_callS (pc := 208) (As := [.ref _, .int _, .int _, .int _, .int _]) dX0_run_208 km_X0_run ks_X0_run kl_RX0_47 rfl (by decide) ⟨Nat.le_refl _, Nat.le_refl _⟩ rfl (Nat.le_of_ble_eq_true rfl) (Nat.le_of_ble_eq_true rfl) (c_run_2_0_2 (dd := dd + 1) hS h0 (by omega) (by omega) (fun J1 h1 f1 => ⟨rfl, rfl, ?_⟩))
  have g1 := g0.tr f1
  refine x_aload_n (pc := 211) dX0_run_211 rfl rfl ?_
  refine x_get (pc := 212) dX0_run_212 kf_RX0_27 hS.1 rfl ?_
  rw [show _ = (nI v : Int32) from h1.2.2.1]
  refine x_isub (pc := 215) dX0_run_215 ?_
  refine x_ireturn (pc := 216) dX0_run_216 ⟨_, rfl, rfl⟩ ⟨Nat.le_refl _, Nat.le_refl _⟩ ?_
  exact K _ h1 g1

set_option maxHeartbeats 4000000 in
set_option maxRecDepth 100000 in
theorem c_run_2_2_2 {T : xT} {n : Nat} {sh : Nat → Nat × Nat} {I : xI} {R : xR} {L : xL} {P : xPost} {ac v b r : Nat} {f : Nat → Nat} (hS : sh ac = (0, 0) ∧ R ac 0 = some (ac + 1) ∧ xRow sh R (ac + 1) (ac + 2) 20) {x : Int32} {dd : Nat} (hA : ATC I ac 2 v b r f) (hr : r + 4 ≤ 20) (hd : dd + 4 ≤ 20) (K : ∀ J : xI, ATC J ac 2 v b (r + 4) (apL f r [12, 11, 30, 10]) → atF ac I J → P (n, sh, 0, 0) J R L (some (.int ((((x * 3) + nI b) - nI v) * 2)))) : XM T zX0_run 4 [.ref ac, .int 2, .int 2, .int x, .int (nI dd)] n sh I R L P := by
  refine x_iload (pc := 0) dX0_run_0 rfl ?_
  refine x_bipush (pc := 2) (v := 20) dX0_run_2 (by decide) ?_
  refine x_icmpn_le_t (pc := 4) (tgt := 9) (a := dd) (b := 20) dX0_run_4 (by decide) (by omega) (by decide) (by omega) ?_
  refine x_iload_n (pc := 9) dX0_run_9 rfl rfl ?_
  refine x_istore (pc := 10) (lv' := [(0, .ref ac), (1, .int 2), (2, .int 2), (3, .int x), (4, .int (nI dd)), (5, .int 2)]) dX0_run_10 (by decide) rfl ?_
  refine x_iconst (pc := 12) (v := 0) dX0_run_12 (by decide) ?_
  refine x_istore (pc := 13) (lv' := [(0, .ref ac), (1, .int 2), (2, .int 2), (3, .int x), (4, .int (nI dd)), (5, .int 2), (6, .int 0)]) dX0_run_13 (by decide) rfl ?_
  refine x_iload (pc := 15) dX0_run_15 rfl ?_
  refine x_bipush (pc := 17) (v := 7) dX0_run_17 (by decide) ?_
  refine x_icmp_ge_f (pc := 19) (tgt := 45) dX0_run_19 (by decide) (by decide) ?_
  refine x_iload (pc := 22) dX0_run_22 rfl ?_
  refine x_iload_n (pc := 24) dX0_run_24 rfl rfl ?_
  refine x_callS (pc := 25) (As := [.int _, .int _]) dX0_run_25 km_X0_bodyOf ks_X0_bodyOf kl_RX0_36 rfl (by decide) ⟨Nat.le_refl _, Nat.le_refl _⟩ rfl (Nat.le_of_ble_eq_true rfl) (Nat.le_of_ble_eq_true rfl) (c_bodyOf_2_2 (⟨rfl, rfl, ?_⟩))
  refine x_iconst (pc := 28) (v := -1) dX0_run_28 (by decide) ?_
  refine x_icmp_ne_f (pc := 29) (tgt := 45) dX0_run_29 (by decide) (by decide) ?_
  refine x_iload (pc := 32) dX0_run_32 rfl ?_
  refine x_callSN (pc := 34) (As := [.int _]) dX0_run_34 km_X9_kindAbove ks_X9_kindAbove kn_RX0_40 rfl (by decide) ⟨Nat.le_refl _, Nat.le_refl _⟩ rfl (Nat.le_of_ble_eq_true rfl) (Nat.le_of_ble_eq_true rfl) (c_kindAbove (k := 2) (by decide) (⟨rfl, rfl, ?_⟩))
  rw [show kAbI 2 = 0 from rfl]
  refine x_istore (pc := 37) (lv' := [(0, .ref ac), (1, .int 2), (2, .int 2), (3, .int x), (4, .int (nI dd)), (5, .int 0), (6, .int 0)]) dX0_run_37 (by decide) rfl ?_
  refine x_iinc (pc := 39) (v := 1) (lv' := [(0, .ref ac), (1, .int 2), (2, .int 2), (3, .int x), (4, .int (nI dd)), (5, .int 0), (6, .int 1)]) dX0_run_39 rfl (by decide) (by decide) rfl ?_
  refine x_goto (pc := 42) (tgt := 15) dX0_run_42 (by decide) ?_
  refine x_iload (pc := 15) dX0_run_15 rfl ?_
  refine x_bipush (pc := 17) (v := 7) dX0_run_17 (by decide) ?_
  refine x_icmp_ge_f (pc := 19) (tgt := 45) dX0_run_19 (by decide) (by decide) ?_
  refine x_iload (pc := 22) dX0_run_22 rfl ?_
  refine x_iload_n (pc := 24) dX0_run_24 rfl rfl ?_
  refine x_callS (pc := 25) (As := [.int _, .int _]) dX0_run_25 km_X0_bodyOf ks_X0_bodyOf kl_RX0_36 rfl (by decide) ⟨Nat.le_refl _, Nat.le_refl _⟩ rfl (Nat.le_of_ble_eq_true rfl) (Nat.le_of_ble_eq_true rfl) (c_bodyOf_0_2 (⟨rfl, rfl, ?_⟩))
  refine x_iconst (pc := 28) (v := -1) dX0_run_28 (by decide) ?_
  refine x_icmp_ne_t (pc := 29) (tgt := 45) dX0_run_29 (by decide) (by decide) ?_
  refine x_iload (pc := 45) dX0_run_45 rfl ?_
  refine x_iload_n (pc := 47) dX0_run_47 rfl rfl ?_
  refine x_callS (pc := 48) (As := [.int _, .int _]) dX0_run_48 km_X0_bodyOf ks_X0_bodyOf kl_RX0_36 rfl (by decide) ⟨Nat.le_refl _, Nat.le_refl _⟩ rfl (Nat.le_of_ble_eq_true rfl) (Nat.le_of_ble_eq_true rfl) (c_bodyOf_0_2 (⟨rfl, rfl, ?_⟩))
  refine x_istore (pc := 51) (lv' := [(0, .ref ac), (1, .int 2), (2, .int 2), (3, .int x), (4, .int (nI dd)), (5, .int 0), (6, .int 12)]) dX0_run_51 (by decide) rfl ?_
  refine x_iload (pc := 53) dX0_run_53 rfl ?_
  refine x_iconst (pc := 55) (v := -1) dX0_run_55 (by decide) ?_
  refine x_icmp_ne_t (pc := 56) (tgt := 61) dX0_run_56 (by decide) (by decide) ?_
  refine x_iload (pc := 61) dX0_run_61 rfl ?_
  refine x_callSN (pc := 63) (As := [.int _]) dX0_run_63 km_X9_kindAbove ks_X9_kindAbove kn_RX0_40 rfl (by decide) ⟨Nat.le_refl _, Nat.le_refl _⟩ rfl (Nat.le_of_ble_eq_true rfl) (Nat.le_of_ble_eq_true rfl) (c_kindAbove (k := 0) (by decide) (⟨rfl, rfl, ?_⟩))
  rw [show kAbI 0 = (-1) from rfl]
  refine x_istore (pc := 66) (lv' := [(0, .ref ac), (1, .int 2), (2, .int 2), (3, .int x), (4, .int (nI dd)), (5, .int 0), (6, .int 12), (7, .int (-1))]) dX0_run_66 (by decide) rfl ?_
  refine x_iload (pc := 68) dX0_run_68 rfl ?_
  refine x_iconst (pc := 70) (v := 1) dX0_run_70 (by decide) ?_
  refine x_iaddn (pc := 71) (a := dd) (b := 1) dX0_run_71 ?_
  refine x_istore (pc := 72) (lv' := [(0, .ref ac), (1, .int 2), (2, .int 2), (3, .int x), (4, .int (nI dd)), (5, .int 0), (6, .int 12), (7, .int (-1)), (8, .int (nI (dd + 1)))]) dX0_run_72 (by decide) rfl ?_
  refine x_aload_n (pc := 74) dX0_run_74 rfl rfl ?_
  refine x_dup (pc := 75) dX0_run_75 rfl ?_
  refine x_get (pc := 76) dX0_run_76 kf_RX0_20 hS.1 rfl ?_
  rw [show I ac 1 = nI r from hA.1]
  refine x_iconst (pc := 79) (v := 1) dX0_run_79 (by decide) ?_
  refine x_iaddn (pc := 80) (a := r) (b := 1) dX0_run_80 ?_
  refine x_put (pc := 81) dX0_run_81 kf_RX0_20 hS.1 rfl (Or.inl kb_0_1) ?_
  refine x_aload_n (pc := 84) dX0_run_84 rfl rfl ?_
  refine x_getr (pc := 85) dX0_run_85 kf_RX0_16 hS.1 rfl hS.2.1 ?_
  refine x_iload (pc := 88) dX0_run_88 rfl ?_
  refine x_callV (pc := 90) (As := [.int _]) dX0_run_90 km_X5_add kv_X5_add kl_RX0_44 hS.2.2.1 rfl rfl (by decide) ⟨Nat.le_refl _, Nat.le_refl _⟩ rfl (Nat.le_of_ble_eq_true rfl) (Nat.le_of_ble_eq_true rfl) (c_add (x := 12) (m := r) hS.2.2 ((congrFun (up2_row (by omega)) 1).trans hA.2.2.2.2.1) (by omega) (⟨rfl, rfl, ?_⟩))
  have h0 := hA.step (x := 12) (a := 12) rfl
  have g0 := @atF.st I ac 1 r 1 (nI (r + 1)) 12 (nI (r + 1))
  refine x_iload (pc := 93) dX0_run_93 rfl ?_
  refine x_lsw (pc := 95) (dt := 362) [(10, 192), (11, 199), (12, 217), (20, 232), (30, 246), (40, 259), (50, 283), (51, 295), (60, 308), (70, 324), (71, 346)] dX0_run_95 (by decide +kernel) (by decide +kernel) (by decide) ?_
  refine xsw_c (fun h => absurd h (by decide)) (fun _ => ?_)
  refine xsw_c (fun h => absurd h (by decide)) (fun _ => ?_)
  refine xsw_c (fun _ => ?_) (fun h => absurd rfl h)
  refine x_aload_n (pc := 217) dX0_run_217 rfl rfl ?_
  refine x_iconst (pc := 218) (v := 1) dX0_run_218 (by decide) ?_
  refine x_aload_n (pc := 219) dX0_run_219 rfl rfl ?_
  refine x_get (pc := 220) dX0_run_220 kf_RX0_24 hS.1 rfl ?_
  rw [show _ = (2 : Int32) from h0.2.1]
  refine x_iload_n (pc := 223) dX0_run_223 rfl rfl ?_
  refine x_iload (pc := 224) dX0_run_224 rfl ?_
  refine x_callS (pc := 226) (As := [.ref _, .int _, .int _, .int _, .int _]) dX0_run_226 km_X0_run ks_X0_run kl_RX0_47 rfl (by decide) ⟨Nat.le_refl _, Nat.le_refl _⟩ rfl (Nat.le_of_ble_eq_true rfl) (Nat.le_of_ble_eq_true rfl) (c_run_2_1_2 (dd := dd + 1) hS h0 (by omega) (by omega) (fun J1 h1 f1 => ⟨rfl, rfl, ?_⟩))
  have g1 := g0.tr f1
  refine x_iconst (pc := 229) (v := 2) dX0_run_229 (by decide) ?_
  refine x_imul (pc := 230) dX0_run_230 ?_
  refine x_ireturn (pc := 231) dX0_run_231 ⟨_, rfl, rfl⟩ ⟨Nat.le_refl _, Nat.le_refl _⟩ ?_
  exact K _ h1 g1

set_option maxHeartbeats 4000000 in
set_option maxRecDepth 100000 in
theorem c_run_3_0_3 {T : xT} {n : Nat} {sh : Nat → Nat × Nat} {I : xI} {R : xR} {L : xL} {P : xPost} {ac v b r : Nat} {f : Nat → Nat} (hS : sh ac = (0, 0) ∧ R ac 0 = some (ac + 1) ∧ xRow sh R (ac + 1) (ac + 2) 20) {x : Int32} {dd : Nat} (hA : ATC I ac 3 v b r f) (hr : r + 1 ≤ 20) (hd : dd + 1 ≤ 20) (K : ∀ J : xI, ATC J ac 3 v b (r + 1) (apL f r [10]) → atF ac I J → P (n, sh, 0, 0) J R L (some (.int (x + nI b)))) : XM T zX0_run 1 [.ref ac, .int 0, .int 3, .int x, .int (nI dd)] n sh I R L P := by
  refine x_iload (pc := 0) dX0_run_0 rfl ?_
  refine x_bipush (pc := 2) (v := 20) dX0_run_2 (by decide) ?_
  refine x_icmpn_le_t (pc := 4) (tgt := 9) (a := dd) (b := 20) dX0_run_4 (by decide) (by omega) (by decide) (by omega) ?_
  refine x_iload_n (pc := 9) dX0_run_9 rfl rfl ?_
  refine x_istore (pc := 10) (lv' := [(0, .ref ac), (1, .int 0), (2, .int 3), (3, .int x), (4, .int (nI dd)), (5, .int 3)]) dX0_run_10 (by decide) rfl ?_
  refine x_iconst (pc := 12) (v := 0) dX0_run_12 (by decide) ?_
  refine x_istore (pc := 13) (lv' := [(0, .ref ac), (1, .int 0), (2, .int 3), (3, .int x), (4, .int (nI dd)), (5, .int 3), (6, .int 0)]) dX0_run_13 (by decide) rfl ?_
  refine x_iload (pc := 15) dX0_run_15 rfl ?_
  refine x_bipush (pc := 17) (v := 7) dX0_run_17 (by decide) ?_
  refine x_icmp_ge_f (pc := 19) (tgt := 45) dX0_run_19 (by decide) (by decide) ?_
  refine x_iload (pc := 22) dX0_run_22 rfl ?_
  refine x_iload_n (pc := 24) dX0_run_24 rfl rfl ?_
  refine x_callS (pc := 25) (As := [.int _, .int _]) dX0_run_25 km_X0_bodyOf ks_X0_bodyOf kl_RX0_36 rfl (by decide) ⟨Nat.le_refl _, Nat.le_refl _⟩ rfl (Nat.le_of_ble_eq_true rfl) (Nat.le_of_ble_eq_true rfl) (c_bodyOf_3_0 (⟨rfl, rfl, ?_⟩))
  refine x_iconst (pc := 28) (v := -1) dX0_run_28 (by decide) ?_
  refine x_icmp_ne_f (pc := 29) (tgt := 45) dX0_run_29 (by decide) (by decide) ?_
  refine x_iload (pc := 32) dX0_run_32 rfl ?_
  refine x_callSN (pc := 34) (As := [.int _]) dX0_run_34 km_X9_kindAbove ks_X9_kindAbove kn_RX0_40 rfl (by decide) ⟨Nat.le_refl _, Nat.le_refl _⟩ rfl (Nat.le_of_ble_eq_true rfl) (Nat.le_of_ble_eq_true rfl) (c_kindAbove (k := 3) (by decide) (⟨rfl, rfl, ?_⟩))
  rw [show kAbI 3 = 0 from rfl]
  refine x_istore (pc := 37) (lv' := [(0, .ref ac), (1, .int 0), (2, .int 3), (3, .int x), (4, .int (nI dd)), (5, .int 0), (6, .int 0)]) dX0_run_37 (by decide) rfl ?_
  refine x_iinc (pc := 39) (v := 1) (lv' := [(0, .ref ac), (1, .int 0), (2, .int 3), (3, .int x), (4, .int (nI dd)), (5, .int 0), (6, .int 1)]) dX0_run_39 rfl (by decide) (by decide) rfl ?_
  refine x_goto (pc := 42) (tgt := 15) dX0_run_42 (by decide) ?_
  refine x_iload (pc := 15) dX0_run_15 rfl ?_
  refine x_bipush (pc := 17) (v := 7) dX0_run_17 (by decide) ?_
  refine x_icmp_ge_f (pc := 19) (tgt := 45) dX0_run_19 (by decide) (by decide) ?_
  refine x_iload (pc := 22) dX0_run_22 rfl ?_
  refine x_iload_n (pc := 24) dX0_run_24 rfl rfl ?_
  refine x_callS (pc := 25) (As := [.int _, .int _]) dX0_run_25 km_X0_bodyOf ks_X0_bodyOf kl_RX0_36 rfl (by decide) ⟨Nat.le_refl _, Nat.le_refl _⟩ rfl (Nat.le_of_ble_eq_true rfl) (Nat.le_of_ble_eq_true rfl) (c_bodyOf_0_0 (⟨rfl, rfl, ?_⟩))
  refine x_iconst (pc := 28) (v := -1) dX0_run_28 (by decide) ?_
  refine x_icmp_ne_t (pc := 29) (tgt := 45) dX0_run_29 (by decide) (by decide) ?_
  refine x_iload (pc := 45) dX0_run_45 rfl ?_
  refine x_iload_n (pc := 47) dX0_run_47 rfl rfl ?_
  refine x_callS (pc := 48) (As := [.int _, .int _]) dX0_run_48 km_X0_bodyOf ks_X0_bodyOf kl_RX0_36 rfl (by decide) ⟨Nat.le_refl _, Nat.le_refl _⟩ rfl (Nat.le_of_ble_eq_true rfl) (Nat.le_of_ble_eq_true rfl) (c_bodyOf_0_0 (⟨rfl, rfl, ?_⟩))
  refine x_istore (pc := 51) (lv' := [(0, .ref ac), (1, .int 0), (2, .int 3), (3, .int x), (4, .int (nI dd)), (5, .int 0), (6, .int 10)]) dX0_run_51 (by decide) rfl ?_
  refine x_iload (pc := 53) dX0_run_53 rfl ?_
  refine x_iconst (pc := 55) (v := -1) dX0_run_55 (by decide) ?_
  refine x_icmp_ne_t (pc := 56) (tgt := 61) dX0_run_56 (by decide) (by decide) ?_
  refine x_iload (pc := 61) dX0_run_61 rfl ?_
  refine x_callSN (pc := 63) (As := [.int _]) dX0_run_63 km_X9_kindAbove ks_X9_kindAbove kn_RX0_40 rfl (by decide) ⟨Nat.le_refl _, Nat.le_refl _⟩ rfl (Nat.le_of_ble_eq_true rfl) (Nat.le_of_ble_eq_true rfl) (c_kindAbove (k := 0) (by decide) (⟨rfl, rfl, ?_⟩))
  rw [show kAbI 0 = (-1) from rfl]
  refine x_istore (pc := 66) (lv' := [(0, .ref ac), (1, .int 0), (2, .int 3), (3, .int x), (4, .int (nI dd)), (5, .int 0), (6, .int 10), (7, .int (-1))]) dX0_run_66 (by decide) rfl ?_
  refine x_iload (pc := 68) dX0_run_68 rfl ?_
  refine x_iconst (pc := 70) (v := 1) dX0_run_70 (by decide) ?_
  refine x_iaddn (pc := 71) (a := dd) (b := 1) dX0_run_71 ?_
  refine x_istore (pc := 72) (lv' := [(0, .ref ac), (1, .int 0), (2, .int 3), (3, .int x), (4, .int (nI dd)), (5, .int 0), (6, .int 10), (7, .int (-1)), (8, .int (nI (dd + 1)))]) dX0_run_72 (by decide) rfl ?_
  refine x_aload_n (pc := 74) dX0_run_74 rfl rfl ?_
  refine x_dup (pc := 75) dX0_run_75 rfl ?_
  refine x_get (pc := 76) dX0_run_76 kf_RX0_20 hS.1 rfl ?_
  rw [show I ac 1 = nI r from hA.1]
  refine x_iconst (pc := 79) (v := 1) dX0_run_79 (by decide) ?_
  refine x_iaddn (pc := 80) (a := r) (b := 1) dX0_run_80 ?_
  refine x_put (pc := 81) dX0_run_81 kf_RX0_20 hS.1 rfl (Or.inl kb_0_1) ?_
  refine x_aload_n (pc := 84) dX0_run_84 rfl rfl ?_
  refine x_getr (pc := 85) dX0_run_85 kf_RX0_16 hS.1 rfl hS.2.1 ?_
  refine x_iload (pc := 88) dX0_run_88 rfl ?_
  refine x_callV (pc := 90) (As := [.int _]) dX0_run_90 km_X5_add kv_X5_add kl_RX0_44 hS.2.2.1 rfl rfl (by decide) ⟨Nat.le_refl _, Nat.le_refl _⟩ rfl (Nat.le_of_ble_eq_true rfl) (Nat.le_of_ble_eq_true rfl) (c_add (x := 10) (m := r) hS.2.2 ((congrFun (up2_row (by omega)) 1).trans hA.2.2.2.2.1) (by omega) (⟨rfl, rfl, ?_⟩))
  have h0 := hA.step (x := 10) (a := 10) rfl
  have g0 := @atF.st I ac 1 r 1 (nI (r + 1)) 10 (nI (r + 1))
  refine x_iload (pc := 93) dX0_run_93 rfl ?_
  refine x_lsw (pc := 95) (dt := 362) [(10, 192), (11, 199), (12, 217), (20, 232), (30, 246), (40, 259), (50, 283), (51, 295), (60, 308), (70, 324), (71, 346)] dX0_run_95 (by decide +kernel) (by decide +kernel) (by decide) ?_
  refine xsw_c (fun _ => ?_) (fun h => absurd rfl h)
  refine x_iload_n (pc := 192) dX0_run_192 rfl rfl ?_
  refine x_aload_n (pc := 193) dX0_run_193 rfl rfl ?_
  refine x_get (pc := 194) dX0_run_194 kf_RX0_30 hS.1 rfl ?_
  rw [show _ = (nI b : Int32) from h0.2.2.2.1]
  refine x_iadd (pc := 197) dX0_run_197 ?_
  refine x_ireturn (pc := 198) dX0_run_198 ⟨_, rfl, rfl⟩ ⟨Nat.le_refl _, Nat.le_refl _⟩ ?_
  exact K _ h0 g0

set_option maxHeartbeats 4000000 in
set_option maxRecDepth 100000 in
theorem c_run_3_1_3 {T : xT} {n : Nat} {sh : Nat → Nat × Nat} {I : xI} {R : xR} {L : xL} {P : xPost} {ac v b r : Nat} {f : Nat → Nat} (hS : sh ac = (0, 0) ∧ R ac 0 = some (ac + 1) ∧ xRow sh R (ac + 1) (ac + 2) 20) {x : Int32} {dd : Nat} (hA : ATC I ac 3 v b r f) (hr : r + 2 ≤ 20) (hd : dd + 2 ≤ 20) (K : ∀ J : xI, ATC J ac 3 v b (r + 2) (apL f r [11, 10]) → atF ac I J → P (n, sh, 0, 0) J R L (some (.int ((x + nI b) - nI v)))) : XM T zX0_run 2 [.ref ac, .int 1, .int 3, .int x, .int (nI dd)] n sh I R L P := by
  refine x_iload (pc := 0) dX0_run_0 rfl ?_
  refine x_bipush (pc := 2) (v := 20) dX0_run_2 (by decide) ?_
  refine x_icmpn_le_t (pc := 4) (tgt := 9) (a := dd) (b := 20) dX0_run_4 (by decide) (by omega) (by decide) (by omega) ?_
  refine x_iload_n (pc := 9) dX0_run_9 rfl rfl ?_
  refine x_istore (pc := 10) (lv' := [(0, .ref ac), (1, .int 1), (2, .int 3), (3, .int x), (4, .int (nI dd)), (5, .int 3)]) dX0_run_10 (by decide) rfl ?_
  refine x_iconst (pc := 12) (v := 0) dX0_run_12 (by decide) ?_
  refine x_istore (pc := 13) (lv' := [(0, .ref ac), (1, .int 1), (2, .int 3), (3, .int x), (4, .int (nI dd)), (5, .int 3), (6, .int 0)]) dX0_run_13 (by decide) rfl ?_
  refine x_iload (pc := 15) dX0_run_15 rfl ?_
  refine x_bipush (pc := 17) (v := 7) dX0_run_17 (by decide) ?_
  refine x_icmp_ge_f (pc := 19) (tgt := 45) dX0_run_19 (by decide) (by decide) ?_
  refine x_iload (pc := 22) dX0_run_22 rfl ?_
  refine x_iload_n (pc := 24) dX0_run_24 rfl rfl ?_
  refine x_callS (pc := 25) (As := [.int _, .int _]) dX0_run_25 km_X0_bodyOf ks_X0_bodyOf kl_RX0_36 rfl (by decide) ⟨Nat.le_refl _, Nat.le_refl _⟩ rfl (Nat.le_of_ble_eq_true rfl) (Nat.le_of_ble_eq_true rfl) (c_bodyOf_3_1 (⟨rfl, rfl, ?_⟩))
  refine x_iconst (pc := 28) (v := -1) dX0_run_28 (by decide) ?_
  refine x_icmp_ne_f (pc := 29) (tgt := 45) dX0_run_29 (by decide) (by decide) ?_
  refine x_iload (pc := 32) dX0_run_32 rfl ?_
  refine x_callSN (pc := 34) (As := [.int _]) dX0_run_34 km_X9_kindAbove ks_X9_kindAbove kn_RX0_40 rfl (by decide) ⟨Nat.le_refl _, Nat.le_refl _⟩ rfl (Nat.le_of_ble_eq_true rfl) (Nat.le_of_ble_eq_true rfl) (c_kindAbove (k := 3) (by decide) (⟨rfl, rfl, ?_⟩))
  rw [show kAbI 3 = 0 from rfl]
  refine x_istore (pc := 37) (lv' := [(0, .ref ac), (1, .int 1), (2, .int 3), (3, .int x), (4, .int (nI dd)), (5, .int 0), (6, .int 0)]) dX0_run_37 (by decide) rfl ?_
  refine x_iinc (pc := 39) (v := 1) (lv' := [(0, .ref ac), (1, .int 1), (2, .int 3), (3, .int x), (4, .int (nI dd)), (5, .int 0), (6, .int 1)]) dX0_run_39 rfl (by decide) (by decide) rfl ?_
  refine x_goto (pc := 42) (tgt := 15) dX0_run_42 (by decide) ?_
  refine x_iload (pc := 15) dX0_run_15 rfl ?_
  refine x_bipush (pc := 17) (v := 7) dX0_run_17 (by decide) ?_
  refine x_icmp_ge_f (pc := 19) (tgt := 45) dX0_run_19 (by decide) (by decide) ?_
  refine x_iload (pc := 22) dX0_run_22 rfl ?_
  refine x_iload_n (pc := 24) dX0_run_24 rfl rfl ?_
  refine x_callS (pc := 25) (As := [.int _, .int _]) dX0_run_25 km_X0_bodyOf ks_X0_bodyOf kl_RX0_36 rfl (by decide) ⟨Nat.le_refl _, Nat.le_refl _⟩ rfl (Nat.le_of_ble_eq_true rfl) (Nat.le_of_ble_eq_true rfl) (c_bodyOf_0_1 (⟨rfl, rfl, ?_⟩))
  refine x_iconst (pc := 28) (v := -1) dX0_run_28 (by decide) ?_
  refine x_icmp_ne_t (pc := 29) (tgt := 45) dX0_run_29 (by decide) (by decide) ?_
  refine x_iload (pc := 45) dX0_run_45 rfl ?_
  refine x_iload_n (pc := 47) dX0_run_47 rfl rfl ?_
  refine x_callS (pc := 48) (As := [.int _, .int _]) dX0_run_48 km_X0_bodyOf ks_X0_bodyOf kl_RX0_36 rfl (by decide) ⟨Nat.le_refl _, Nat.le_refl _⟩ rfl (Nat.le_of_ble_eq_true rfl) (Nat.le_of_ble_eq_true rfl) (c_bodyOf_0_1 (⟨rfl, rfl, ?_⟩))
  refine x_istore (pc := 51) (lv' := [(0, .ref ac), (1, .int 1), (2, .int 3), (3, .int x), (4, .int (nI dd)), (5, .int 0), (6, .int 11)]) dX0_run_51 (by decide) rfl ?_
  refine x_iload (pc := 53) dX0_run_53 rfl ?_
  refine x_iconst (pc := 55) (v := -1) dX0_run_55 (by decide) ?_
  refine x_icmp_ne_t (pc := 56) (tgt := 61) dX0_run_56 (by decide) (by decide) ?_
  refine x_iload (pc := 61) dX0_run_61 rfl ?_
  refine x_callSN (pc := 63) (As := [.int _]) dX0_run_63 km_X9_kindAbove ks_X9_kindAbove kn_RX0_40 rfl (by decide) ⟨Nat.le_refl _, Nat.le_refl _⟩ rfl (Nat.le_of_ble_eq_true rfl) (Nat.le_of_ble_eq_true rfl) (c_kindAbove (k := 0) (by decide) (⟨rfl, rfl, ?_⟩))
  rw [show kAbI 0 = (-1) from rfl]
  refine x_istore (pc := 66) (lv' := [(0, .ref ac), (1, .int 1), (2, .int 3), (3, .int x), (4, .int (nI dd)), (5, .int 0), (6, .int 11), (7, .int (-1))]) dX0_run_66 (by decide) rfl ?_
  refine x_iload (pc := 68) dX0_run_68 rfl ?_
  refine x_iconst (pc := 70) (v := 1) dX0_run_70 (by decide) ?_
  refine x_iaddn (pc := 71) (a := dd) (b := 1) dX0_run_71 ?_
  refine x_istore (pc := 72) (lv' := [(0, .ref ac), (1, .int 1), (2, .int 3), (3, .int x), (4, .int (nI dd)), (5, .int 0), (6, .int 11), (7, .int (-1)), (8, .int (nI (dd + 1)))]) dX0_run_72 (by decide) rfl ?_
  refine x_aload_n (pc := 74) dX0_run_74 rfl rfl ?_
  refine x_dup (pc := 75) dX0_run_75 rfl ?_
  refine x_get (pc := 76) dX0_run_76 kf_RX0_20 hS.1 rfl ?_
  rw [show I ac 1 = nI r from hA.1]
  refine x_iconst (pc := 79) (v := 1) dX0_run_79 (by decide) ?_
  refine x_iaddn (pc := 80) (a := r) (b := 1) dX0_run_80 ?_
  refine x_put (pc := 81) dX0_run_81 kf_RX0_20 hS.1 rfl (Or.inl kb_0_1) ?_
  refine x_aload_n (pc := 84) dX0_run_84 rfl rfl ?_
  refine x_getr (pc := 85) dX0_run_85 kf_RX0_16 hS.1 rfl hS.2.1 ?_
  refine x_iload (pc := 88) dX0_run_88 rfl ?_
  refine x_callV (pc := 90) (As := [.int _]) dX0_run_90 km_X5_add kv_X5_add kl_RX0_44 hS.2.2.1 rfl rfl (by decide) ⟨Nat.le_refl _, Nat.le_refl _⟩ rfl (Nat.le_of_ble_eq_true rfl) (Nat.le_of_ble_eq_true rfl) (c_add (x := 11) (m := r) hS.2.2 ((congrFun (up2_row (by omega)) 1).trans hA.2.2.2.2.1) (by omega) (⟨rfl, rfl, ?_⟩))
  have h0 := hA.step (x := 11) (a := 11) rfl
  have g0 := @atF.st I ac 1 r 1 (nI (r + 1)) 11 (nI (r + 1))
  refine x_iload (pc := 93) dX0_run_93 rfl ?_
  refine x_lsw (pc := 95) (dt := 362) [(10, 192), (11, 199), (12, 217), (20, 232), (30, 246), (40, 259), (50, 283), (51, 295), (60, 308), (70, 324), (71, 346)] dX0_run_95 (by decide +kernel) (by decide +kernel) (by decide) ?_
  refine xsw_c (fun h => absurd h (by decide)) (fun _ => ?_)
  refine xsw_c (fun _ => ?_) (fun h => absurd rfl h)
  refine x_aload_n (pc := 199) dX0_run_199 rfl rfl ?_
  refine x_iconst (pc := 200) (v := 0) dX0_run_200 (by decide) ?_
  refine x_aload_n (pc := 201) dX0_run_201 rfl rfl ?_
  refine x_get (pc := 202) dX0_run_202 kf_RX0_24 hS.1 rfl ?_
  rw [show _ = (3 : Int32) from h0.2.1]
  refine x_iload_n (pc := 205) dX0_run_205 rfl rfl ?_
  refine x_iload (pc := 206) dX0_run_206 rfl ?_
  refine x_callS (pc := 208) (As := [.ref _, .int _, .int _, .int _, .int _]) dX0_run_208 km_X0_run ks_X0_run kl_RX0_47 rfl (by decide) ⟨Nat.le_refl _, Nat.le_refl _⟩ rfl (Nat.le_of_ble_eq_true rfl) (Nat.le_of_ble_eq_true rfl) (c_run_3_0_3 (dd := dd + 1) hS h0 (by omega) (by omega) (fun J1 h1 f1 => ⟨rfl, rfl, ?_⟩))
  have g1 := g0.tr f1
  refine x_aload_n (pc := 211) dX0_run_211 rfl rfl ?_
  refine x_get (pc := 212) dX0_run_212 kf_RX0_27 hS.1 rfl ?_
  rw [show _ = (nI v : Int32) from h1.2.2.1]
  refine x_isub (pc := 215) dX0_run_215 ?_
  refine x_ireturn (pc := 216) dX0_run_216 ⟨_, rfl, rfl⟩ ⟨Nat.le_refl _, Nat.le_refl _⟩ ?_
  exact K _ h1 g1

set_option maxHeartbeats 4000000 in
set_option maxRecDepth 100000 in
theorem c_run_3_2_0 {T : xT} {n : Nat} {sh : Nat → Nat × Nat} {I : xI} {R : xR} {L : xL} {P : xPost} {ac v b r : Nat} {f : Nat → Nat} (hS : sh ac = (0, 0) ∧ R ac 0 = some (ac + 1) ∧ xRow sh R (ac + 1) (ac + 2) 20) {x : Int32} {dd : Nat} (hA : ATC I ac 3 v b r f) (hr : r + 3 ≤ 20) (hd : dd + 3 ≤ 20) (K : ∀ J : xI, ATC J ac 3 v b (r + 3) (apL f r [12, 11, 10]) → atF ac I J → P (n, sh, 0, 0) J R L (some (.int (((x + nI b) - nI v) * 2)))) : XM T zX0_run 3 [.ref ac, .int 2, .int 0, .int x, .int (nI dd)] n sh I R L P := by
  refine x_iload (pc := 0) dX0_run_0 rfl ?_
  refine x_bipush (pc := 2) (v := 20) dX0_run_2 (by decide) ?_
  refine x_icmpn_le_t (pc := 4) (tgt := 9) (a := dd) (b := 20) dX0_run_4 (by decide) (by omega) (by decide) (by omega) ?_
  refine x_iload_n (pc := 9) dX0_run_9 rfl rfl ?_
  refine x_istore (pc := 10) (lv' := [(0, .ref ac), (1, .int 2), (2, .int 0), (3, .int x), (4, .int (nI dd)), (5, .int 0)]) dX0_run_10 (by decide) rfl ?_
  refine x_iconst (pc := 12) (v := 0) dX0_run_12 (by decide) ?_
  refine x_istore (pc := 13) (lv' := [(0, .ref ac), (1, .int 2), (2, .int 0), (3, .int x), (4, .int (nI dd)), (5, .int 0), (6, .int 0)]) dX0_run_13 (by decide) rfl ?_
  refine x_iload (pc := 15) dX0_run_15 rfl ?_
  refine x_bipush (pc := 17) (v := 7) dX0_run_17 (by decide) ?_
  refine x_icmp_ge_f (pc := 19) (tgt := 45) dX0_run_19 (by decide) (by decide) ?_
  refine x_iload (pc := 22) dX0_run_22 rfl ?_
  refine x_iload_n (pc := 24) dX0_run_24 rfl rfl ?_
  refine x_callS (pc := 25) (As := [.int _, .int _]) dX0_run_25 km_X0_bodyOf ks_X0_bodyOf kl_RX0_36 rfl (by decide) ⟨Nat.le_refl _, Nat.le_refl _⟩ rfl (Nat.le_of_ble_eq_true rfl) (Nat.le_of_ble_eq_true rfl) (c_bodyOf_0_2 (⟨rfl, rfl, ?_⟩))
  refine x_iconst (pc := 28) (v := -1) dX0_run_28 (by decide) ?_
  refine x_icmp_ne_t (pc := 29) (tgt := 45) dX0_run_29 (by decide) (by decide) ?_
  refine x_iload (pc := 45) dX0_run_45 rfl ?_
  refine x_iload_n (pc := 47) dX0_run_47 rfl rfl ?_
  refine x_callS (pc := 48) (As := [.int _, .int _]) dX0_run_48 km_X0_bodyOf ks_X0_bodyOf kl_RX0_36 rfl (by decide) ⟨Nat.le_refl _, Nat.le_refl _⟩ rfl (Nat.le_of_ble_eq_true rfl) (Nat.le_of_ble_eq_true rfl) (c_bodyOf_0_2 (⟨rfl, rfl, ?_⟩))
  refine x_istore (pc := 51) (lv' := [(0, .ref ac), (1, .int 2), (2, .int 0), (3, .int x), (4, .int (nI dd)), (5, .int 0), (6, .int 12)]) dX0_run_51 (by decide) rfl ?_
  refine x_iload (pc := 53) dX0_run_53 rfl ?_
  refine x_iconst (pc := 55) (v := -1) dX0_run_55 (by decide) ?_
  refine x_icmp_ne_t (pc := 56) (tgt := 61) dX0_run_56 (by decide) (by decide) ?_
  refine x_iload (pc := 61) dX0_run_61 rfl ?_
  refine x_callSN (pc := 63) (As := [.int _]) dX0_run_63 km_X9_kindAbove ks_X9_kindAbove kn_RX0_40 rfl (by decide) ⟨Nat.le_refl _, Nat.le_refl _⟩ rfl (Nat.le_of_ble_eq_true rfl) (Nat.le_of_ble_eq_true rfl) (c_kindAbove (k := 0) (by decide) (⟨rfl, rfl, ?_⟩))
  rw [show kAbI 0 = (-1) from rfl]
  refine x_istore (pc := 66) (lv' := [(0, .ref ac), (1, .int 2), (2, .int 0), (3, .int x), (4, .int (nI dd)), (5, .int 0), (6, .int 12), (7, .int (-1))]) dX0_run_66 (by decide) rfl ?_
  refine x_iload (pc := 68) dX0_run_68 rfl ?_
  refine x_iconst (pc := 70) (v := 1) dX0_run_70 (by decide) ?_
  refine x_iaddn (pc := 71) (a := dd) (b := 1) dX0_run_71 ?_
  refine x_istore (pc := 72) (lv' := [(0, .ref ac), (1, .int 2), (2, .int 0), (3, .int x), (4, .int (nI dd)), (5, .int 0), (6, .int 12), (7, .int (-1)), (8, .int (nI (dd + 1)))]) dX0_run_72 (by decide) rfl ?_
  refine x_aload_n (pc := 74) dX0_run_74 rfl rfl ?_
  refine x_dup (pc := 75) dX0_run_75 rfl ?_
  refine x_get (pc := 76) dX0_run_76 kf_RX0_20 hS.1 rfl ?_
  rw [show I ac 1 = nI r from hA.1]
  refine x_iconst (pc := 79) (v := 1) dX0_run_79 (by decide) ?_
  refine x_iaddn (pc := 80) (a := r) (b := 1) dX0_run_80 ?_
  refine x_put (pc := 81) dX0_run_81 kf_RX0_20 hS.1 rfl (Or.inl kb_0_1) ?_
  refine x_aload_n (pc := 84) dX0_run_84 rfl rfl ?_
  refine x_getr (pc := 85) dX0_run_85 kf_RX0_16 hS.1 rfl hS.2.1 ?_
  refine x_iload (pc := 88) dX0_run_88 rfl ?_
  refine x_callV (pc := 90) (As := [.int _]) dX0_run_90 km_X5_add kv_X5_add kl_RX0_44 hS.2.2.1 rfl rfl (by decide) ⟨Nat.le_refl _, Nat.le_refl _⟩ rfl (Nat.le_of_ble_eq_true rfl) (Nat.le_of_ble_eq_true rfl) (c_add (x := 12) (m := r) hS.2.2 ((congrFun (up2_row (by omega)) 1).trans hA.2.2.2.2.1) (by omega) (⟨rfl, rfl, ?_⟩))
  have h0 := hA.step (x := 12) (a := 12) rfl
  have g0 := @atF.st I ac 1 r 1 (nI (r + 1)) 12 (nI (r + 1))
  refine x_iload (pc := 93) dX0_run_93 rfl ?_
  refine x_lsw (pc := 95) (dt := 362) [(10, 192), (11, 199), (12, 217), (20, 232), (30, 246), (40, 259), (50, 283), (51, 295), (60, 308), (70, 324), (71, 346)] dX0_run_95 (by decide +kernel) (by decide +kernel) (by decide) ?_
  refine xsw_c (fun h => absurd h (by decide)) (fun _ => ?_)
  refine xsw_c (fun h => absurd h (by decide)) (fun _ => ?_)
  refine xsw_c (fun _ => ?_) (fun h => absurd rfl h)
  refine x_aload_n (pc := 217) dX0_run_217 rfl rfl ?_
  refine x_iconst (pc := 218) (v := 1) dX0_run_218 (by decide) ?_
  refine x_aload_n (pc := 219) dX0_run_219 rfl rfl ?_
  refine x_get (pc := 220) dX0_run_220 kf_RX0_24 hS.1 rfl ?_
  rw [show _ = (3 : Int32) from h0.2.1]
  refine x_iload_n (pc := 223) dX0_run_223 rfl rfl ?_
  refine x_iload (pc := 224) dX0_run_224 rfl ?_
  refine x_callS (pc := 226) (As := [.ref _, .int _, .int _, .int _, .int _]) dX0_run_226 km_X0_run ks_X0_run kl_RX0_47 rfl (by decide) ⟨Nat.le_refl _, Nat.le_refl _⟩ rfl (Nat.le_of_ble_eq_true rfl) (Nat.le_of_ble_eq_true rfl) (c_run_3_1_3 (dd := dd + 1) hS h0 (by omega) (by omega) (fun J1 h1 f1 => ⟨rfl, rfl, ?_⟩))
  have g1 := g0.tr f1
  refine x_iconst (pc := 229) (v := 2) dX0_run_229 (by decide) ?_
  refine x_imul (pc := 230) dX0_run_230 ?_
  refine x_ireturn (pc := 231) dX0_run_231 ⟨_, rfl, rfl⟩ ⟨Nat.le_refl _, Nat.le_refl _⟩ ?_
  exact K _ h1 g1

set_option maxHeartbeats 4000000 in
set_option maxRecDepth 100000 in
theorem c_run_3_2_3 {T : xT} {n : Nat} {sh : Nat → Nat × Nat} {I : xI} {R : xR} {L : xL} {P : xPost} {ac v b r : Nat} {f : Nat → Nat} (hS : sh ac = (0, 0) ∧ R ac 0 = some (ac + 1) ∧ xRow sh R (ac + 1) (ac + 2) 20) {x : Int32} {dd : Nat} (hA : ATC I ac 3 v b r f) (hr : r + 6 ≤ 20) (hd : dd + 4 ≤ 20) (K : ∀ J : xI, ATC J ac 3 v b (r + 6) (apL f r [40, 12, 11, 10, 11, 10]) → atF ac I J → P (n, sh, 0, 0) J R L (some (.int ((((x + nI b) - nI v) * 2) + ((1 + nI b) - nI v))))) : XM T zX0_run 4 [.ref ac, .int 2, .int 3, .int x, .int (nI dd)] n sh I R L P := by
  refine x_iload (pc := 0) dX0_run_0 rfl ?_
  refine x_bipush (pc := 2) (v := 20) dX0_run_2 (by decide) ?_
  refine x_icmpn_le_t (pc := 4) (tgt := 9) (a := dd) (b := 20) dX0_run_4 (by decide) (by omega) (by decide) (by omega) ?_
  refine x_iload_n (pc := 9) dX0_run_9 rfl rfl ?_
  refine x_istore (pc := 10) (lv' := [(0, .ref ac), (1, .int 2), (2, .int 3), (3, .int x), (4, .int (nI dd)), (5, .int 3)]) dX0_run_10 (by decide) rfl ?_
  refine x_iconst (pc := 12) (v := 0) dX0_run_12 (by decide) ?_
  refine x_istore (pc := 13) (lv' := [(0, .ref ac), (1, .int 2), (2, .int 3), (3, .int x), (4, .int (nI dd)), (5, .int 3), (6, .int 0)]) dX0_run_13 (by decide) rfl ?_
  refine x_iload (pc := 15) dX0_run_15 rfl ?_
  refine x_bipush (pc := 17) (v := 7) dX0_run_17 (by decide) ?_
  refine x_icmp_ge_f (pc := 19) (tgt := 45) dX0_run_19 (by decide) (by decide) ?_
  refine x_iload (pc := 22) dX0_run_22 rfl ?_
  refine x_iload_n (pc := 24) dX0_run_24 rfl rfl ?_
  refine x_callS (pc := 25) (As := [.int _, .int _]) dX0_run_25 km_X0_bodyOf ks_X0_bodyOf kl_RX0_36 rfl (by decide) ⟨Nat.le_refl _, Nat.le_refl _⟩ rfl (Nat.le_of_ble_eq_true rfl) (Nat.le_of_ble_eq_true rfl) (c_bodyOf_3_2 (⟨rfl, rfl, ?_⟩))
  refine x_iconst (pc := 28) (v := -1) dX0_run_28 (by decide) ?_
  refine x_icmp_ne_t (pc := 29) (tgt := 45) dX0_run_29 (by decide) (by decide) ?_
  refine x_iload (pc := 45) dX0_run_45 rfl ?_
  refine x_iload_n (pc := 47) dX0_run_47 rfl rfl ?_
  refine x_callS (pc := 48) (As := [.int _, .int _]) dX0_run_48 km_X0_bodyOf ks_X0_bodyOf kl_RX0_36 rfl (by decide) ⟨Nat.le_refl _, Nat.le_refl _⟩ rfl (Nat.le_of_ble_eq_true rfl) (Nat.le_of_ble_eq_true rfl) (c_bodyOf_3_2 (⟨rfl, rfl, ?_⟩))
  refine x_istore (pc := 51) (lv' := [(0, .ref ac), (1, .int 2), (2, .int 3), (3, .int x), (4, .int (nI dd)), (5, .int 3), (6, .int 40)]) dX0_run_51 (by decide) rfl ?_
  refine x_iload (pc := 53) dX0_run_53 rfl ?_
  refine x_iconst (pc := 55) (v := -1) dX0_run_55 (by decide) ?_
  refine x_icmp_ne_t (pc := 56) (tgt := 61) dX0_run_56 (by decide) (by decide) ?_
  refine x_iload (pc := 61) dX0_run_61 rfl ?_
  refine x_callSN (pc := 63) (As := [.int _]) dX0_run_63 km_X9_kindAbove ks_X9_kindAbove kn_RX0_40 rfl (by decide) ⟨Nat.le_refl _, Nat.le_refl _⟩ rfl (Nat.le_of_ble_eq_true rfl) (Nat.le_of_ble_eq_true rfl) (c_kindAbove (k := 3) (by decide) (⟨rfl, rfl, ?_⟩))
  rw [show kAbI 3 = 0 from rfl]
  refine x_istore (pc := 66) (lv' := [(0, .ref ac), (1, .int 2), (2, .int 3), (3, .int x), (4, .int (nI dd)), (5, .int 3), (6, .int 40), (7, .int 0)]) dX0_run_66 (by decide) rfl ?_
  refine x_iload (pc := 68) dX0_run_68 rfl ?_
  refine x_iconst (pc := 70) (v := 1) dX0_run_70 (by decide) ?_
  refine x_iaddn (pc := 71) (a := dd) (b := 1) dX0_run_71 ?_
  refine x_istore (pc := 72) (lv' := [(0, .ref ac), (1, .int 2), (2, .int 3), (3, .int x), (4, .int (nI dd)), (5, .int 3), (6, .int 40), (7, .int 0), (8, .int (nI (dd + 1)))]) dX0_run_72 (by decide) rfl ?_
  refine x_aload_n (pc := 74) dX0_run_74 rfl rfl ?_
  refine x_dup (pc := 75) dX0_run_75 rfl ?_
  refine x_get (pc := 76) dX0_run_76 kf_RX0_20 hS.1 rfl ?_
  rw [show I ac 1 = nI r from hA.1]
  refine x_iconst (pc := 79) (v := 1) dX0_run_79 (by decide) ?_
  refine x_iaddn (pc := 80) (a := r) (b := 1) dX0_run_80 ?_
  refine x_put (pc := 81) dX0_run_81 kf_RX0_20 hS.1 rfl (Or.inl kb_0_1) ?_
  refine x_aload_n (pc := 84) dX0_run_84 rfl rfl ?_
  refine x_getr (pc := 85) dX0_run_85 kf_RX0_16 hS.1 rfl hS.2.1 ?_
  refine x_iload (pc := 88) dX0_run_88 rfl ?_
  refine x_callV (pc := 90) (As := [.int _]) dX0_run_90 km_X5_add kv_X5_add kl_RX0_44 hS.2.2.1 rfl rfl (by decide) ⟨Nat.le_refl _, Nat.le_refl _⟩ rfl (Nat.le_of_ble_eq_true rfl) (Nat.le_of_ble_eq_true rfl) (c_add (x := 40) (m := r) hS.2.2 ((congrFun (up2_row (by omega)) 1).trans hA.2.2.2.2.1) (by omega) (⟨rfl, rfl, ?_⟩))
  have h0 := hA.step (x := 40) (a := 40) rfl
  have g0 := @atF.st I ac 1 r 1 (nI (r + 1)) 40 (nI (r + 1))
  refine x_iload (pc := 93) dX0_run_93 rfl ?_
  refine x_lsw (pc := 95) (dt := 362) [(10, 192), (11, 199), (12, 217), (20, 232), (30, 246), (40, 259), (50, 283), (51, 295), (60, 308), (70, 324), (71, 346)] dX0_run_95 (by decide +kernel) (by decide +kernel) (by decide) ?_
  refine xsw_c (fun h => absurd h (by decide)) (fun _ => ?_)
  refine xsw_c (fun h => absurd h (by decide)) (fun _ => ?_)
  refine xsw_c (fun h => absurd h (by decide)) (fun _ => ?_)
  refine xsw_c (fun h => absurd h (by decide)) (fun _ => ?_)
  refine xsw_c (fun h => absurd h (by decide)) (fun _ => ?_)
  refine xsw_c (fun _ => ?_) (fun h => absurd rfl h)
  refine x_aload_n (pc := 259) dX0_run_259 rfl rfl ?_
  refine x_iconst (pc := 260) (v := 2) dX0_run_260 (by decide) ?_
  refine x_iload (pc := 261) dX0_run_261 rfl ?_
  refine x_iload_n (pc := 263) dX0_run_263 rfl rfl ?_
  refine x_iload (pc := 264) dX0_run_264 rfl ?_
  refine x_callS (pc := 266) (As := [.ref _, .int _, .int _, .int _, .int _]) dX0_run_266 km_X0_run ks_X0_run kl_RX0_47 rfl (by decide) ⟨Nat.le_refl _, Nat.le_refl _⟩ rfl (Nat.le_of_ble_eq_true rfl) (Nat.le_of_ble_eq_true rfl) (c_run_3_2_0 (dd := dd + 1) hS h0 (by omega) (by omega) (fun J1 h1 f1 => ⟨rfl, rfl, ?_⟩))
  have g1 := g0.tr f1
  refine x_aload_n (pc := 269) dX0_run_269 rfl rfl ?_
  refine x_iconst (pc := 270) (v := 1) dX0_run_270 (by decide) ?_
  refine x_aload_n (pc := 271) dX0_run_271 rfl rfl ?_
  refine x_get (pc := 272) dX0_run_272 kf_RX0_24 hS.1 rfl ?_
  rw [show _ = (3 : Int32) from h1.2.1]
  refine x_iconst (pc := 275) (v := 1) dX0_run_275 (by decide) ?_
  refine x_iload (pc := 276) dX0_run_276 rfl ?_
  refine x_callS (pc := 278) (As := [.ref _, .int _, .int _, .int _, .int _]) dX0_run_278 km_X0_run ks_X0_run kl_RX0_47 rfl (by decide) ⟨Nat.le_refl _, Nat.le_refl _⟩ rfl (Nat.le_of_ble_eq_true rfl) (Nat.le_of_ble_eq_true rfl) (c_run_3_1_3 (dd := dd + 1) hS h1 (by omega) (by omega) (fun J2 h2 f2 => ⟨rfl, rfl, ?_⟩))
  have g2 := g1.tr f2
  refine x_iadd (pc := 281) dX0_run_281 ?_
  refine x_ireturn (pc := 282) dX0_run_282 ⟨_, rfl, rfl⟩ ⟨Nat.le_refl _, Nat.le_refl _⟩ ?_
  exact K _ h2 g2

set_option maxHeartbeats 4000000 in
set_option maxRecDepth 100000 in
theorem c_run_4_0_1 {T : xT} {n : Nat} {sh : Nat → Nat × Nat} {I : xI} {R : xR} {L : xL} {P : xPost} {ac v b r : Nat} {f : Nat → Nat} (hS : sh ac = (0, 0) ∧ R ac 0 = some (ac + 1) ∧ xRow sh R (ac + 1) (ac + 2) 20) {x : Int32} {dd : Nat} (hA : ATC I ac 4 v b r f) (hr : r + 1 ≤ 20) (hd : dd + 1 ≤ 20) (K : ∀ J : xI, ATC J ac 4 v b (r + 1) (apL f r [10]) → atF ac I J → P (n, sh, 0, 0) J R L (some (.int (x + nI b)))) : XM T zX0_run 1 [.ref ac, .int 0, .int 1, .int x, .int (nI dd)] n sh I R L P := by
  refine x_iload (pc := 0) dX0_run_0 rfl ?_
  refine x_bipush (pc := 2) (v := 20) dX0_run_2 (by decide) ?_
  refine x_icmpn_le_t (pc := 4) (tgt := 9) (a := dd) (b := 20) dX0_run_4 (by decide) (by omega) (by decide) (by omega) ?_
  refine x_iload_n (pc := 9) dX0_run_9 rfl rfl ?_
  refine x_istore (pc := 10) (lv' := [(0, .ref ac), (1, .int 0), (2, .int 1), (3, .int x), (4, .int (nI dd)), (5, .int 1)]) dX0_run_10 (by decide) rfl ?_
  refine x_iconst (pc := 12) (v := 0) dX0_run_12 (by decide) ?_
  refine x_istore (pc := 13) (lv' := [(0, .ref ac), (1, .int 0), (2, .int 1), (3, .int x), (4, .int (nI dd)), (5, .int 1), (6, .int 0)]) dX0_run_13 (by decide) rfl ?_
  refine x_iload (pc := 15) dX0_run_15 rfl ?_
  refine x_bipush (pc := 17) (v := 7) dX0_run_17 (by decide) ?_
  refine x_icmp_ge_f (pc := 19) (tgt := 45) dX0_run_19 (by decide) (by decide) ?_
  refine x_iload (pc := 22) dX0_run_22 rfl ?_
  refine x_iload_n (pc := 24) dX0_run_24 rfl rfl ?_
  refine x_callS (pc := 25) (As := [.int _, .int _]) dX0_run_25 km_X0_bodyOf ks_X0_bodyOf kl_RX0_36 rfl (by decide) ⟨Nat.le_refl _, Nat.le_refl _⟩ rfl (Nat.le_of_ble_eq_true rfl) (Nat.le_of_ble_eq_true rfl) (c_bodyOf_1_0 (⟨rfl, rfl, ?_⟩))
  refine x_iconst (pc := 28) (v := -1) dX0_run_28 (by decide) ?_
  refine x_icmp_ne_f (pc := 29) (tgt := 45) dX0_run_29 (by decide) (by decide) ?_
  refine x_iload (pc := 32) dX0_run_32 rfl ?_
  refine x_callSN (pc := 34) (As := [.int _]) dX0_run_34 km_X9_kindAbove ks_X9_kindAbove kn_RX0_40 rfl (by decide) ⟨Nat.le_refl _, Nat.le_refl _⟩ rfl (Nat.le_of_ble_eq_true rfl) (Nat.le_of_ble_eq_true rfl) (c_kindAbove (k := 1) (by decide) (⟨rfl, rfl, ?_⟩))
  rw [show kAbI 1 = 0 from rfl]
  refine x_istore (pc := 37) (lv' := [(0, .ref ac), (1, .int 0), (2, .int 1), (3, .int x), (4, .int (nI dd)), (5, .int 0), (6, .int 0)]) dX0_run_37 (by decide) rfl ?_
  refine x_iinc (pc := 39) (v := 1) (lv' := [(0, .ref ac), (1, .int 0), (2, .int 1), (3, .int x), (4, .int (nI dd)), (5, .int 0), (6, .int 1)]) dX0_run_39 rfl (by decide) (by decide) rfl ?_
  refine x_goto (pc := 42) (tgt := 15) dX0_run_42 (by decide) ?_
  refine x_iload (pc := 15) dX0_run_15 rfl ?_
  refine x_bipush (pc := 17) (v := 7) dX0_run_17 (by decide) ?_
  refine x_icmp_ge_f (pc := 19) (tgt := 45) dX0_run_19 (by decide) (by decide) ?_
  refine x_iload (pc := 22) dX0_run_22 rfl ?_
  refine x_iload_n (pc := 24) dX0_run_24 rfl rfl ?_
  refine x_callS (pc := 25) (As := [.int _, .int _]) dX0_run_25 km_X0_bodyOf ks_X0_bodyOf kl_RX0_36 rfl (by decide) ⟨Nat.le_refl _, Nat.le_refl _⟩ rfl (Nat.le_of_ble_eq_true rfl) (Nat.le_of_ble_eq_true rfl) (c_bodyOf_0_0 (⟨rfl, rfl, ?_⟩))
  refine x_iconst (pc := 28) (v := -1) dX0_run_28 (by decide) ?_
  refine x_icmp_ne_t (pc := 29) (tgt := 45) dX0_run_29 (by decide) (by decide) ?_
  refine x_iload (pc := 45) dX0_run_45 rfl ?_
  refine x_iload_n (pc := 47) dX0_run_47 rfl rfl ?_
  refine x_callS (pc := 48) (As := [.int _, .int _]) dX0_run_48 km_X0_bodyOf ks_X0_bodyOf kl_RX0_36 rfl (by decide) ⟨Nat.le_refl _, Nat.le_refl _⟩ rfl (Nat.le_of_ble_eq_true rfl) (Nat.le_of_ble_eq_true rfl) (c_bodyOf_0_0 (⟨rfl, rfl, ?_⟩))
  refine x_istore (pc := 51) (lv' := [(0, .ref ac), (1, .int 0), (2, .int 1), (3, .int x), (4, .int (nI dd)), (5, .int 0), (6, .int 10)]) dX0_run_51 (by decide) rfl ?_
  refine x_iload (pc := 53) dX0_run_53 rfl ?_
  refine x_iconst (pc := 55) (v := -1) dX0_run_55 (by decide) ?_
  refine x_icmp_ne_t (pc := 56) (tgt := 61) dX0_run_56 (by decide) (by decide) ?_
  refine x_iload (pc := 61) dX0_run_61 rfl ?_
  refine x_callSN (pc := 63) (As := [.int _]) dX0_run_63 km_X9_kindAbove ks_X9_kindAbove kn_RX0_40 rfl (by decide) ⟨Nat.le_refl _, Nat.le_refl _⟩ rfl (Nat.le_of_ble_eq_true rfl) (Nat.le_of_ble_eq_true rfl) (c_kindAbove (k := 0) (by decide) (⟨rfl, rfl, ?_⟩))
  rw [show kAbI 0 = (-1) from rfl]
  refine x_istore (pc := 66) (lv' := [(0, .ref ac), (1, .int 0), (2, .int 1), (3, .int x), (4, .int (nI dd)), (5, .int 0), (6, .int 10), (7, .int (-1))]) dX0_run_66 (by decide) rfl ?_
  refine x_iload (pc := 68) dX0_run_68 rfl ?_
  refine x_iconst (pc := 70) (v := 1) dX0_run_70 (by decide) ?_
  refine x_iaddn (pc := 71) (a := dd) (b := 1) dX0_run_71 ?_
  refine x_istore (pc := 72) (lv' := [(0, .ref ac), (1, .int 0), (2, .int 1), (3, .int x), (4, .int (nI dd)), (5, .int 0), (6, .int 10), (7, .int (-1)), (8, .int (nI (dd + 1)))]) dX0_run_72 (by decide) rfl ?_
  refine x_aload_n (pc := 74) dX0_run_74 rfl rfl ?_
  refine x_dup (pc := 75) dX0_run_75 rfl ?_
  refine x_get (pc := 76) dX0_run_76 kf_RX0_20 hS.1 rfl ?_
  rw [show I ac 1 = nI r from hA.1]
  refine x_iconst (pc := 79) (v := 1) dX0_run_79 (by decide) ?_
  refine x_iaddn (pc := 80) (a := r) (b := 1) dX0_run_80 ?_
  refine x_put (pc := 81) dX0_run_81 kf_RX0_20 hS.1 rfl (Or.inl kb_0_1) ?_
  refine x_aload_n (pc := 84) dX0_run_84 rfl rfl ?_
  refine x_getr (pc := 85) dX0_run_85 kf_RX0_16 hS.1 rfl hS.2.1 ?_
  refine x_iload (pc := 88) dX0_run_88 rfl ?_
  refine x_callV (pc := 90) (As := [.int _]) dX0_run_90 km_X5_add kv_X5_add kl_RX0_44 hS.2.2.1 rfl rfl (by decide) ⟨Nat.le_refl _, Nat.le_refl _⟩ rfl (Nat.le_of_ble_eq_true rfl) (Nat.le_of_ble_eq_true rfl) (c_add (x := 10) (m := r) hS.2.2 ((congrFun (up2_row (by omega)) 1).trans hA.2.2.2.2.1) (by omega) (⟨rfl, rfl, ?_⟩))
  have h0 := hA.step (x := 10) (a := 10) rfl
  have g0 := @atF.st I ac 1 r 1 (nI (r + 1)) 10 (nI (r + 1))
  refine x_iload (pc := 93) dX0_run_93 rfl ?_
  refine x_lsw (pc := 95) (dt := 362) [(10, 192), (11, 199), (12, 217), (20, 232), (30, 246), (40, 259), (50, 283), (51, 295), (60, 308), (70, 324), (71, 346)] dX0_run_95 (by decide +kernel) (by decide +kernel) (by decide) ?_
  refine xsw_c (fun _ => ?_) (fun h => absurd rfl h)
  refine x_iload_n (pc := 192) dX0_run_192 rfl rfl ?_
  refine x_aload_n (pc := 193) dX0_run_193 rfl rfl ?_
  refine x_get (pc := 194) dX0_run_194 kf_RX0_30 hS.1 rfl ?_
  rw [show _ = (nI b : Int32) from h0.2.2.2.1]
  refine x_iadd (pc := 197) dX0_run_197 ?_
  refine x_ireturn (pc := 198) dX0_run_198 ⟨_, rfl, rfl⟩ ⟨Nat.le_refl _, Nat.le_refl _⟩ ?_
  exact K _ h0 g0

set_option maxHeartbeats 4000000 in
set_option maxRecDepth 100000 in
theorem c_run_4_0_4 {T : xT} {n : Nat} {sh : Nat → Nat × Nat} {I : xI} {R : xR} {L : xL} {P : xPost} {ac v b r : Nat} {f : Nat → Nat} (hS : sh ac = (0, 0) ∧ R ac 0 = some (ac + 1) ∧ xRow sh R (ac + 1) (ac + 2) 20) {x : Int32} {dd : Nat} (hA : ATC I ac 4 v b r f) (hr : r + 2 ≤ 20) (hd : dd + 2 ≤ 20) (K : ∀ J : xI, ATC J ac 4 v b (r + 2) (apL f r [50, 10]) → atF ac I J → P (n, sh, 0, 0) J R L (some (.int (-(x + nI b))))) : XM T zX0_run 2 [.ref ac, .int 0, .int 4, .int x, .int (nI dd)] n sh I R L P := by
  refine x_iload (pc := 0) dX0_run_0 rfl ?_
  refine x_bipush (pc := 2) (v := 20) dX0_run_2 (by decide) ?_
  refine x_icmpn_le_t (pc := 4) (tgt := 9) (a := dd) (b := 20) dX0_run_4 (by decide) (by omega) (by decide) (by omega) ?_
  refine x_iload_n (pc := 9) dX0_run_9 rfl rfl ?_
  refine x_istore (pc := 10) (lv' := [(0, .ref ac), (1, .int 0), (2, .int 4), (3, .int x), (4, .int (nI dd)), (5, .int 4)]) dX0_run_10 (by decide) rfl ?_
  refine x_iconst (pc := 12) (v := 0) dX0_run_12 (by decide) ?_
  refine x_istore (pc := 13) (lv' := [(0, .ref ac), (1, .int 0), (2, .int 4), (3, .int x), (4, .int (nI dd)), (5, .int 4), (6, .int 0)]) dX0_run_13 (by decide) rfl ?_
  refine x_iload (pc := 15) dX0_run_15 rfl ?_
  refine x_bipush (pc := 17) (v := 7) dX0_run_17 (by decide) ?_
  refine x_icmp_ge_f (pc := 19) (tgt := 45) dX0_run_19 (by decide) (by decide) ?_
  refine x_iload (pc := 22) dX0_run_22 rfl ?_
  refine x_iload_n (pc := 24) dX0_run_24 rfl rfl ?_
  refine x_callS (pc := 25) (As := [.int _, .int _]) dX0_run_25 km_X0_bodyOf ks_X0_bodyOf kl_RX0_36 rfl (by decide) ⟨Nat.le_refl _, Nat.le_refl _⟩ rfl (Nat.le_of_ble_eq_true rfl) (Nat.le_of_ble_eq_true rfl) (c_bodyOf_4_0 (⟨rfl, rfl, ?_⟩))
  refine x_iconst (pc := 28) (v := -1) dX0_run_28 (by decide) ?_
  refine x_icmp_ne_t (pc := 29) (tgt := 45) dX0_run_29 (by decide) (by decide) ?_
  refine x_iload (pc := 45) dX0_run_45 rfl ?_
  refine x_iload_n (pc := 47) dX0_run_47 rfl rfl ?_
  refine x_callS (pc := 48) (As := [.int _, .int _]) dX0_run_48 km_X0_bodyOf ks_X0_bodyOf kl_RX0_36 rfl (by decide) ⟨Nat.le_refl _, Nat.le_refl _⟩ rfl (Nat.le_of_ble_eq_true rfl) (Nat.le_of_ble_eq_true rfl) (c_bodyOf_4_0 (⟨rfl, rfl, ?_⟩))
  refine x_istore (pc := 51) (lv' := [(0, .ref ac), (1, .int 0), (2, .int 4), (3, .int x), (4, .int (nI dd)), (5, .int 4), (6, .int 50)]) dX0_run_51 (by decide) rfl ?_
  refine x_iload (pc := 53) dX0_run_53 rfl ?_
  refine x_iconst (pc := 55) (v := -1) dX0_run_55 (by decide) ?_
  refine x_icmp_ne_t (pc := 56) (tgt := 61) dX0_run_56 (by decide) (by decide) ?_
  refine x_iload (pc := 61) dX0_run_61 rfl ?_
  refine x_callSN (pc := 63) (As := [.int _]) dX0_run_63 km_X9_kindAbove ks_X9_kindAbove kn_RX0_40 rfl (by decide) ⟨Nat.le_refl _, Nat.le_refl _⟩ rfl (Nat.le_of_ble_eq_true rfl) (Nat.le_of_ble_eq_true rfl) (c_kindAbove (k := 4) (by decide) (⟨rfl, rfl, ?_⟩))
  rw [show kAbI 4 = 1 from rfl]
  refine x_istore (pc := 66) (lv' := [(0, .ref ac), (1, .int 0), (2, .int 4), (3, .int x), (4, .int (nI dd)), (5, .int 4), (6, .int 50), (7, .int 1)]) dX0_run_66 (by decide) rfl ?_
  refine x_iload (pc := 68) dX0_run_68 rfl ?_
  refine x_iconst (pc := 70) (v := 1) dX0_run_70 (by decide) ?_
  refine x_iaddn (pc := 71) (a := dd) (b := 1) dX0_run_71 ?_
  refine x_istore (pc := 72) (lv' := [(0, .ref ac), (1, .int 0), (2, .int 4), (3, .int x), (4, .int (nI dd)), (5, .int 4), (6, .int 50), (7, .int 1), (8, .int (nI (dd + 1)))]) dX0_run_72 (by decide) rfl ?_
  refine x_aload_n (pc := 74) dX0_run_74 rfl rfl ?_
  refine x_dup (pc := 75) dX0_run_75 rfl ?_
  refine x_get (pc := 76) dX0_run_76 kf_RX0_20 hS.1 rfl ?_
  rw [show I ac 1 = nI r from hA.1]
  refine x_iconst (pc := 79) (v := 1) dX0_run_79 (by decide) ?_
  refine x_iaddn (pc := 80) (a := r) (b := 1) dX0_run_80 ?_
  refine x_put (pc := 81) dX0_run_81 kf_RX0_20 hS.1 rfl (Or.inl kb_0_1) ?_
  refine x_aload_n (pc := 84) dX0_run_84 rfl rfl ?_
  refine x_getr (pc := 85) dX0_run_85 kf_RX0_16 hS.1 rfl hS.2.1 ?_
  refine x_iload (pc := 88) dX0_run_88 rfl ?_
  refine x_callV (pc := 90) (As := [.int _]) dX0_run_90 km_X5_add kv_X5_add kl_RX0_44 hS.2.2.1 rfl rfl (by decide) ⟨Nat.le_refl _, Nat.le_refl _⟩ rfl (Nat.le_of_ble_eq_true rfl) (Nat.le_of_ble_eq_true rfl) (c_add (x := 50) (m := r) hS.2.2 ((congrFun (up2_row (by omega)) 1).trans hA.2.2.2.2.1) (by omega) (⟨rfl, rfl, ?_⟩))
  have h0 := hA.step (x := 50) (a := 50) rfl
  have g0 := @atF.st I ac 1 r 1 (nI (r + 1)) 50 (nI (r + 1))
  refine x_iload (pc := 93) dX0_run_93 rfl ?_
  refine x_lsw (pc := 95) (dt := 362) [(10, 192), (11, 199), (12, 217), (20, 232), (30, 246), (40, 259), (50, 283), (51, 295), (60, 308), (70, 324), (71, 346)] dX0_run_95 (by decide +kernel) (by decide +kernel) (by decide) ?_
  refine xsw_c (fun h => absurd h (by decide)) (fun _ => ?_)
  refine xsw_c (fun h => absurd h (by decide)) (fun _ => ?_)
  refine xsw_c (fun h => absurd h (by decide)) (fun _ => ?_)
  refine xsw_c (fun h => absurd h (by decide)) (fun _ => ?_)
  refine xsw_c (fun h => absurd h (by decide)) (fun _ => ?_)
  refine xsw_c (fun h => absurd h (by decide)) (fun _ => ?_)
  refine xsw_c (fun _ => ?_) (fun h => absurd rfl h)
  refine x_aload_n (pc := 283) dX0_run_283 rfl rfl ?_
  refine x_iconst (pc := 284) (v := 0) dX0_run_284 (by decide) ?_
  refine x_iload (pc := 285) dX0_run_285 rfl ?_
  refine x_iload_n (pc := 287) dX0_run_287 rfl rfl ?_
  refine x_iload (pc := 288) dX0_run_288 rfl ?_
  refine x_callS (pc := 290) (As := [.ref _, .int _, .int _, .int _, .int _]) dX0_run_290 km_X0_run ks_X0_run kl_RX0_47 rfl (by decide) ⟨Nat.le_refl _, Nat.le_refl _⟩ rfl (Nat.le_of_ble_eq_true rfl) (Nat.le_of_ble_eq_true rfl) (c_run_4_0_1 (dd := dd + 1) hS h0 (by omega) (by omega) (fun J1 h1 f1 => ⟨rfl, rfl, ?_⟩))
  have g1 := g0.tr f1
  refine x_ineg (pc := 293) dX0_run_293 ?_
  refine x_ireturn (pc := 294) dX0_run_294 ⟨_, rfl, rfl⟩ ⟨Nat.le_refl _, Nat.le_refl _⟩ ?_
  exact K _ h1 g1

set_option maxHeartbeats 4000000 in
set_option maxRecDepth 100000 in
theorem c_run_4_1_0 {T : xT} {n : Nat} {sh : Nat → Nat × Nat} {I : xI} {R : xR} {L : xL} {P : xPost} {ac v b r : Nat} {f : Nat → Nat} (hS : sh ac = (0, 0) ∧ R ac 0 = some (ac + 1) ∧ xRow sh R (ac + 1) (ac + 2) 20) {x : Int32} {dd : Nat} (hA : ATC I ac 4 v b r f) (hr : r + 3 ≤ 20) (hd : dd + 3 ≤ 20) (K : ∀ J : xI, ATC J ac 4 v b (r + 3) (apL f r [11, 50, 10]) → atF ac I J → P (n, sh, 0, 0) J R L (some (.int ((-(x + nI b)) - nI v)))) : XM T zX0_run 3 [.ref ac, .int 1, .int 0, .int x, .int (nI dd)] n sh I R L P := by
  refine x_iload (pc := 0) dX0_run_0 rfl ?_
  refine x_bipush (pc := 2) (v := 20) dX0_run_2 (by decide) ?_
  refine x_icmpn_le_t (pc := 4) (tgt := 9) (a := dd) (b := 20) dX0_run_4 (by decide) (by omega) (by decide) (by omega) ?_
  refine x_iload_n (pc := 9) dX0_run_9 rfl rfl ?_
  refine x_istore (pc := 10) (lv' := [(0, .ref ac), (1, .int 1), (2, .int 0), (3, .int x), (4, .int (nI dd)), (5, .int 0)]) dX0_run_10 (by decide) rfl ?_
  refine x_iconst (pc := 12) (v := 0) dX0_run_12 (by decide) ?_
  refine x_istore (pc := 13) (lv' := [(0, .ref ac), (1, .int 1), (2, .int 0), (3, .int x), (4, .int (nI dd)), (5, .int 0), (6, .int 0)]) dX0_run_13 (by decide) rfl ?_
  refine x_iload (pc := 15) dX0_run_15 rfl ?_
  refine x_bipush (pc := 17) (v := 7) dX0_run_17 (by decide) ?_
  refine x_icmp_ge_f (pc := 19) (tgt := 45) dX0_run_19 (by decide) (by decide) ?_
  refine x_iload (pc := 22) dX0_run_22 rfl ?_
  refine x_iload_n (pc := 24) dX0_run_24 rfl rfl ?_
  refine x_callS (pc := 25) (As := [.int _, .int _]) dX0_run_25 km_X0_bodyOf ks_X0_bodyOf kl_RX0_36 rfl (by decide) ⟨Nat.le_refl _, Nat.le_refl _⟩ rfl (Nat.le_of_ble_eq_true rfl) (Nat.le_of_ble_eq_true rfl) (c_bodyOf_0_1 (⟨rfl, rfl, ?_⟩))
  refine x_iconst (pc := 28) (v := -1) dX0_run_28 (by decide) ?_
  refine x_icmp_ne_t (pc := 29) (tgt := 45) dX0_run_29 (by decide) (by decide) ?_
  refine x_iload (pc := 45) dX0_run_45 rfl ?_
  refine x_iload_n (pc := 47) dX0_run_47 rfl rfl ?_
  refine x_callS (pc := 48) (As := [.int _, .int _]) dX0_run_48 km_X0_bodyOf ks_X0_bodyOf kl_RX0_36 rfl (by decide) ⟨Nat.le_refl _, Nat.le_refl _⟩ rfl (Nat.le_of_ble_eq_true rfl) (Nat.le_of_ble_eq_true rfl) (c_bodyOf_0_1 (⟨rfl, rfl, ?_⟩))
  refine x_istore (pc := 51) (lv' := [(0, .ref ac), (1, .int 1), (2, .int 0), (3, .int x), (4, .int (nI dd)), (5, .int 0), (6, .int 11)]) dX0_run_51 (by decide) rfl ?_
  refine x_iload (pc := 53) dX0_run_53 rfl ?_
  refine x_iconst (pc := 55) (v := -1) dX0_run_55 (by decide) ?_
  refine x_icmp_ne_t (pc := 56) (tgt := 61) dX0_run_56 (by decide) (by decide) ?_
  refine x_iload (pc := 61) dX0_run_61 rfl ?_
  refine x_callSN (pc := 63) (As := [.int _]) dX0_run_63 km_X9_kindAbove ks_X9_kindAbove kn_RX0_40 rfl (by decide) ⟨Nat.le_refl _, Nat.le_refl _⟩ rfl (Nat.le_of_ble_eq_true rfl) (Nat.le_of_ble_eq_true rfl) (c_kindAbove (k := 0) (by decide) (⟨rfl, rfl, ?_⟩))
  rw [show kAbI 0 = (-1) from rfl]
  refine x_istore (pc := 66) (lv' := [(0, .ref ac), (1, .int 1), (2, .int 0), (3, .int x), (4, .int (nI dd)), (5, .int 0), (6, .int 11), (7, .int (-1))]) dX0_run_66 (by decide) rfl ?_
  refine x_iload (pc := 68) dX0_run_68 rfl ?_
  refine x_iconst (pc := 70) (v := 1) dX0_run_70 (by decide) ?_
  refine x_iaddn (pc := 71) (a := dd) (b := 1) dX0_run_71 ?_
  refine x_istore (pc := 72) (lv' := [(0, .ref ac), (1, .int 1), (2, .int 0), (3, .int x), (4, .int (nI dd)), (5, .int 0), (6, .int 11), (7, .int (-1)), (8, .int (nI (dd + 1)))]) dX0_run_72 (by decide) rfl ?_
  refine x_aload_n (pc := 74) dX0_run_74 rfl rfl ?_
  refine x_dup (pc := 75) dX0_run_75 rfl ?_
  refine x_get (pc := 76) dX0_run_76 kf_RX0_20 hS.1 rfl ?_
  rw [show I ac 1 = nI r from hA.1]
  refine x_iconst (pc := 79) (v := 1) dX0_run_79 (by decide) ?_
  refine x_iaddn (pc := 80) (a := r) (b := 1) dX0_run_80 ?_
  refine x_put (pc := 81) dX0_run_81 kf_RX0_20 hS.1 rfl (Or.inl kb_0_1) ?_
  refine x_aload_n (pc := 84) dX0_run_84 rfl rfl ?_
  refine x_getr (pc := 85) dX0_run_85 kf_RX0_16 hS.1 rfl hS.2.1 ?_
  refine x_iload (pc := 88) dX0_run_88 rfl ?_
  refine x_callV (pc := 90) (As := [.int _]) dX0_run_90 km_X5_add kv_X5_add kl_RX0_44 hS.2.2.1 rfl rfl (by decide) ⟨Nat.le_refl _, Nat.le_refl _⟩ rfl (Nat.le_of_ble_eq_true rfl) (Nat.le_of_ble_eq_true rfl) (c_add (x := 11) (m := r) hS.2.2 ((congrFun (up2_row (by omega)) 1).trans hA.2.2.2.2.1) (by omega) (⟨rfl, rfl, ?_⟩))
  have h0 := hA.step (x := 11) (a := 11) rfl
  have g0 := @atF.st I ac 1 r 1 (nI (r + 1)) 11 (nI (r + 1))
  refine x_iload (pc := 93) dX0_run_93 rfl ?_
  refine x_lsw (pc := 95) (dt := 362) [(10, 192), (11, 199), (12, 217), (20, 232), (30, 246), (40, 259), (50, 283), (51, 295), (60, 308), (70, 324), (71, 346)] dX0_run_95 (by decide +kernel) (by decide +kernel) (by decide) ?_
  refine xsw_c (fun h => absurd h (by decide)) (fun _ => ?_)
  refine xsw_c (fun _ => ?_) (fun h => absurd rfl h)
  refine x_aload_n (pc := 199) dX0_run_199 rfl rfl ?_
  refine x_iconst (pc := 200) (v := 0) dX0_run_200 (by decide) ?_
  refine x_aload_n (pc := 201) dX0_run_201 rfl rfl ?_
  refine x_get (pc := 202) dX0_run_202 kf_RX0_24 hS.1 rfl ?_
  rw [show _ = (4 : Int32) from h0.2.1]
  refine x_iload_n (pc := 205) dX0_run_205 rfl rfl ?_
  refine x_iload (pc := 206) dX0_run_206 rfl ?_
  refine x_callS (pc := 208) (As := [.ref _, .int _, .int _, .int _, .int _]) dX0_run_208 km_X0_run ks_X0_run kl_RX0_47 rfl (by decide) ⟨Nat.le_refl _, Nat.le_refl _⟩ rfl (Nat.le_of_ble_eq_true rfl) (Nat.le_of_ble_eq_true rfl) (c_run_4_0_4 (dd := dd + 1) hS h0 (by omega) (by omega) (fun J1 h1 f1 => ⟨rfl, rfl, ?_⟩))
  have g1 := g0.tr f1
  refine x_aload_n (pc := 211) dX0_run_211 rfl rfl ?_
  refine x_get (pc := 212) dX0_run_212 kf_RX0_27 hS.1 rfl ?_
  rw [show _ = (nI v : Int32) from h1.2.2.1]
  refine x_isub (pc := 215) dX0_run_215 ?_
  refine x_ireturn (pc := 216) dX0_run_216 ⟨_, rfl, rfl⟩ ⟨Nat.le_refl _, Nat.le_refl _⟩ ?_
  exact K _ h1 g1

set_option maxHeartbeats 4000000 in
set_option maxRecDepth 100000 in
theorem c_run_4_1_1 {T : xT} {n : Nat} {sh : Nat → Nat × Nat} {I : xI} {R : xR} {L : xL} {P : xPost} {ac v b r : Nat} {f : Nat → Nat} (hS : sh ac = (0, 0) ∧ R ac 0 = some (ac + 1) ∧ xRow sh R (ac + 1) (ac + 2) 20) {x : Int32} {dd : Nat} (hA : ATC I ac 4 v b r f) (hr : r + 4 ≤ 20) (hd : dd + 4 ≤ 20) (K : ∀ J : xI, ATC J ac 4 v b (r + 4) (apL f r [20, 11, 50, 10]) → atF ac I J → P (n, sh, 0, 0) J R L (some (.int (((-(x + nI b)) - nI v) ^^^ 6)))) : XM T zX0_run 4 [.ref ac, .int 1, .int 1, .int x, .int (nI dd)] n sh I R L P := by
  refine x_iload (pc := 0) dX0_run_0 rfl ?_
  refine x_bipush (pc := 2) (v := 20) dX0_run_2 (by decide) ?_
  refine x_icmpn_le_t (pc := 4) (tgt := 9) (a := dd) (b := 20) dX0_run_4 (by decide) (by omega) (by decide) (by omega) ?_
  refine x_iload_n (pc := 9) dX0_run_9 rfl rfl ?_
  refine x_istore (pc := 10) (lv' := [(0, .ref ac), (1, .int 1), (2, .int 1), (3, .int x), (4, .int (nI dd)), (5, .int 1)]) dX0_run_10 (by decide) rfl ?_
  refine x_iconst (pc := 12) (v := 0) dX0_run_12 (by decide) ?_
  refine x_istore (pc := 13) (lv' := [(0, .ref ac), (1, .int 1), (2, .int 1), (3, .int x), (4, .int (nI dd)), (5, .int 1), (6, .int 0)]) dX0_run_13 (by decide) rfl ?_
  refine x_iload (pc := 15) dX0_run_15 rfl ?_
  refine x_bipush (pc := 17) (v := 7) dX0_run_17 (by decide) ?_
  refine x_icmp_ge_f (pc := 19) (tgt := 45) dX0_run_19 (by decide) (by decide) ?_
  refine x_iload (pc := 22) dX0_run_22 rfl ?_
  refine x_iload_n (pc := 24) dX0_run_24 rfl rfl ?_
  refine x_callS (pc := 25) (As := [.int _, .int _]) dX0_run_25 km_X0_bodyOf ks_X0_bodyOf kl_RX0_36 rfl (by decide) ⟨Nat.le_refl _, Nat.le_refl _⟩ rfl (Nat.le_of_ble_eq_true rfl) (Nat.le_of_ble_eq_true rfl) (c_bodyOf_1_1 (⟨rfl, rfl, ?_⟩))
  refine x_iconst (pc := 28) (v := -1) dX0_run_28 (by decide) ?_
  refine x_icmp_ne_t (pc := 29) (tgt := 45) dX0_run_29 (by decide) (by decide) ?_
  refine x_iload (pc := 45) dX0_run_45 rfl ?_
  refine x_iload_n (pc := 47) dX0_run_47 rfl rfl ?_
  refine x_callS (pc := 48) (As := [.int _, .int _]) dX0_run_48 km_X0_bodyOf ks_X0_bodyOf kl_RX0_36 rfl (by decide) ⟨Nat.le_refl _, Nat.le_refl _⟩ rfl (Nat.le_of_ble_eq_true rfl) (Nat.le_of_ble_eq_true rfl) (c_bodyOf_1_1 (⟨rfl, rfl, ?_⟩))
  refine x_istore (pc := 51) (lv' := [(0, .ref ac), (1, .int 1), (2, .int 1), (3, .int x), (4, .int (nI dd)), (5, .int 1), (6, .int 20)]) dX0_run_51 (by decide) rfl ?_
  refine x_iload (pc := 53) dX0_run_53 rfl ?_
  refine x_iconst (pc := 55) (v := -1) dX0_run_55 (by decide) ?_
  refine x_icmp_ne_t (pc := 56) (tgt := 61) dX0_run_56 (by decide) (by decide) ?_
  refine x_iload (pc := 61) dX0_run_61 rfl ?_
  refine x_callSN (pc := 63) (As := [.int _]) dX0_run_63 km_X9_kindAbove ks_X9_kindAbove kn_RX0_40 rfl (by decide) ⟨Nat.le_refl _, Nat.le_refl _⟩ rfl (Nat.le_of_ble_eq_true rfl) (Nat.le_of_ble_eq_true rfl) (c_kindAbove (k := 1) (by decide) (⟨rfl, rfl, ?_⟩))
  rw [show kAbI 1 = 0 from rfl]
  refine x_istore (pc := 66) (lv' := [(0, .ref ac), (1, .int 1), (2, .int 1), (3, .int x), (4, .int (nI dd)), (5, .int 1), (6, .int 20), (7, .int 0)]) dX0_run_66 (by decide) rfl ?_
  refine x_iload (pc := 68) dX0_run_68 rfl ?_
  refine x_iconst (pc := 70) (v := 1) dX0_run_70 (by decide) ?_
  refine x_iaddn (pc := 71) (a := dd) (b := 1) dX0_run_71 ?_
  refine x_istore (pc := 72) (lv' := [(0, .ref ac), (1, .int 1), (2, .int 1), (3, .int x), (4, .int (nI dd)), (5, .int 1), (6, .int 20), (7, .int 0), (8, .int (nI (dd + 1)))]) dX0_run_72 (by decide) rfl ?_
  refine x_aload_n (pc := 74) dX0_run_74 rfl rfl ?_
  refine x_dup (pc := 75) dX0_run_75 rfl ?_
  refine x_get (pc := 76) dX0_run_76 kf_RX0_20 hS.1 rfl ?_
  rw [show I ac 1 = nI r from hA.1]
  refine x_iconst (pc := 79) (v := 1) dX0_run_79 (by decide) ?_
  refine x_iaddn (pc := 80) (a := r) (b := 1) dX0_run_80 ?_
  refine x_put (pc := 81) dX0_run_81 kf_RX0_20 hS.1 rfl (Or.inl kb_0_1) ?_
  refine x_aload_n (pc := 84) dX0_run_84 rfl rfl ?_
  refine x_getr (pc := 85) dX0_run_85 kf_RX0_16 hS.1 rfl hS.2.1 ?_
  refine x_iload (pc := 88) dX0_run_88 rfl ?_
  refine x_callV (pc := 90) (As := [.int _]) dX0_run_90 km_X5_add kv_X5_add kl_RX0_44 hS.2.2.1 rfl rfl (by decide) ⟨Nat.le_refl _, Nat.le_refl _⟩ rfl (Nat.le_of_ble_eq_true rfl) (Nat.le_of_ble_eq_true rfl) (c_add (x := 20) (m := r) hS.2.2 ((congrFun (up2_row (by omega)) 1).trans hA.2.2.2.2.1) (by omega) (⟨rfl, rfl, ?_⟩))
  have h0 := hA.step (x := 20) (a := 20) rfl
  have g0 := @atF.st I ac 1 r 1 (nI (r + 1)) 20 (nI (r + 1))
  refine x_iload (pc := 93) dX0_run_93 rfl ?_
  refine x_lsw (pc := 95) (dt := 362) [(10, 192), (11, 199), (12, 217), (20, 232), (30, 246), (40, 259), (50, 283), (51, 295), (60, 308), (70, 324), (71, 346)] dX0_run_95 (by decide +kernel) (by decide +kernel) (by decide) ?_
  refine xsw_c (fun h => absurd h (by decide)) (fun _ => ?_)
  refine xsw_c (fun h => absurd h (by decide)) (fun _ => ?_)
  refine xsw_c (fun h => absurd h (by decide)) (fun _ => ?_)
  refine xsw_c (fun _ => ?_) (fun h => absurd rfl h)
  refine x_aload_n (pc := 232) dX0_run_232 rfl rfl ?_
  refine x_iconst (pc := 233) (v := 1) dX0_run_233 (by decide) ?_
  refine x_iload (pc := 234) dX0_run_234 rfl ?_
  refine x_iload_n (pc := 236) dX0_run_236 rfl rfl ?_
  refine x_iload (pc := 237) dX0_run_237 rfl ?_
  refine x_callS (pc := 239) (As := [.ref _, .int _, .int _, .int _, .int _]) dX0_run_239 km_X0_run ks_X0_run kl_RX0_47 rfl (by decide) ⟨Nat.le_refl _, Nat.le_refl _⟩ rfl (Nat.le_of_ble_eq_true rfl) (Nat.le_of_ble_eq_true rfl) (c_run_4_1_0 (dd := dd + 1) hS h0 (by omega) (by omega) (fun J1 h1 f1 => ⟨rfl, rfl, ?_⟩))
  have g1 := g0.tr f1
  refine x_bipush (pc := 242) (v := 6) dX0_run_242 (by decide) ?_
  refine x_ixor (pc := 244) dX0_run_244 ?_
  refine x_ireturn (pc := 245) dX0_run_245 ⟨_, rfl, rfl⟩ ⟨Nat.le_refl _, Nat.le_refl _⟩ ?_
  exact K _ h1 g1

set_option maxHeartbeats 4000000 in
set_option maxRecDepth 100000 in
theorem c_run_4_1_4 {T : xT} {n : Nat} {sh : Nat → Nat × Nat} {I : xI} {R : xR} {L : xL} {P : xPost} {ac v b r : Nat} {f : Nat → Nat} (hS : sh ac = (0, 0) ∧ R ac 0 = some (ac + 1) ∧ xRow sh R (ac + 1) (ac + 2) 20) {x : Int32} {dd : Nat} (hA : ATC I ac 4 v b r f) (hr : r + 5 ≤ 20) (hd : dd + 5 ≤ 20) (K : ∀ J : xI, ATC J ac 4 v b (r + 5) (apL f r [51, 20, 11, 50, 10]) → atF ac I J → P (n, sh, 0, 0) J R L (some (.int (((-((x + 1) + nI b)) - nI v) ^^^ 6)))) : XM T zX0_run 5 [.ref ac, .int 1, .int 4, .int x, .int (nI dd)] n sh I R L P := by
  refine x_iload (pc := 0) dX0_run_0 rfl ?_
  refine x_bipush (pc := 2) (v := 20) dX0_run_2 (by decide) ?_
  refine x_icmpn_le_t (pc := 4) (tgt := 9) (a := dd) (b := 20) dX0_run_4 (by decide) (by omega) (by decide) (by omega) ?_
  refine x_iload_n (pc := 9) dX0_run_9 rfl rfl ?_
  refine x_istore (pc := 10) (lv' := [(0, .ref ac), (1, .int 1), (2, .int 4), (3, .int x), (4, .int (nI dd)), (5, .int 4)]) dX0_run_10 (by decide) rfl ?_
  refine x_iconst (pc := 12) (v := 0) dX0_run_12 (by decide) ?_
  refine x_istore (pc := 13) (lv' := [(0, .ref ac), (1, .int 1), (2, .int 4), (3, .int x), (4, .int (nI dd)), (5, .int 4), (6, .int 0)]) dX0_run_13 (by decide) rfl ?_
  refine x_iload (pc := 15) dX0_run_15 rfl ?_
  refine x_bipush (pc := 17) (v := 7) dX0_run_17 (by decide) ?_
  refine x_icmp_ge_f (pc := 19) (tgt := 45) dX0_run_19 (by decide) (by decide) ?_
  refine x_iload (pc := 22) dX0_run_22 rfl ?_
  refine x_iload_n (pc := 24) dX0_run_24 rfl rfl ?_
  refine x_callS (pc := 25) (As := [.int _, .int _]) dX0_run_25 km_X0_bodyOf ks_X0_bodyOf kl_RX0_36 rfl (by decide) ⟨Nat.le_refl _, Nat.le_refl _⟩ rfl (Nat.le_of_ble_eq_true rfl) (Nat.le_of_ble_eq_true rfl) (c_bodyOf_4_1 (⟨rfl, rfl, ?_⟩))
  refine x_iconst (pc := 28) (v := -1) dX0_run_28 (by decide) ?_
  refine x_icmp_ne_t (pc := 29) (tgt := 45) dX0_run_29 (by decide) (by decide) ?_
  refine x_iload (pc := 45) dX0_run_45 rfl ?_
  refine x_iload_n (pc := 47) dX0_run_47 rfl rfl ?_
  refine x_callS (pc := 48) (As := [.int _, .int _]) dX0_run_48 km_X0_bodyOf ks_X0_bodyOf kl_RX0_36 rfl (by decide) ⟨Nat.le_refl _, Nat.le_refl _⟩ rfl (Nat.le_of_ble_eq_true rfl) (Nat.le_of_ble_eq_true rfl) (c_bodyOf_4_1 (⟨rfl, rfl, ?_⟩))
  refine x_istore (pc := 51) (lv' := [(0, .ref ac), (1, .int 1), (2, .int 4), (3, .int x), (4, .int (nI dd)), (5, .int 4), (6, .int 51)]) dX0_run_51 (by decide) rfl ?_
  refine x_iload (pc := 53) dX0_run_53 rfl ?_
  refine x_iconst (pc := 55) (v := -1) dX0_run_55 (by decide) ?_
  refine x_icmp_ne_t (pc := 56) (tgt := 61) dX0_run_56 (by decide) (by decide) ?_
  refine x_iload (pc := 61) dX0_run_61 rfl ?_
  refine x_callSN (pc := 63) (As := [.int _]) dX0_run_63 km_X9_kindAbove ks_X9_kindAbove kn_RX0_40 rfl (by decide) ⟨Nat.le_refl _, Nat.le_refl _⟩ rfl (Nat.le_of_ble_eq_true rfl) (Nat.le_of_ble_eq_true rfl) (c_kindAbove (k := 4) (by decide) (⟨rfl, rfl, ?_⟩))
  rw [show kAbI 4 = 1 from rfl]
  refine x_istore (pc := 66) (lv' := [(0, .ref ac), (1, .int 1), (2, .int 4), (3, .int x), (4, .int (nI dd)), (5, .int 4), (6, .int 51), (7, .int 1)]) dX0_run_66 (by decide) rfl ?_
  refine x_iload (pc := 68) dX0_run_68 rfl ?_
  refine x_iconst (pc := 70) (v := 1) dX0_run_70 (by decide) ?_
  refine x_iaddn (pc := 71) (a := dd) (b := 1) dX0_run_71 ?_
  refine x_istore (pc := 72) (lv' := [(0, .ref ac), (1, .int 1), (2, .int 4), (3, .int x), (4, .int (nI dd)), (5, .int 4), (6, .int 51), (7, .int 1), (8, .int (nI (dd + 1)))]) dX0_run_72 (by decide) rfl ?_
  refine x_aload_n (pc := 74) dX0_run_74 rfl rfl ?_
  refine x_dup (pc := 75) dX0_run_75 rfl ?_
  refine x_get (pc := 76) dX0_run_76 kf_RX0_20 hS.1 rfl ?_
  rw [show I ac 1 = nI r from hA.1]
  refine x_iconst (pc := 79) (v := 1) dX0_run_79 (by decide) ?_
  refine x_iaddn (pc := 80) (a := r) (b := 1) dX0_run_80 ?_
  refine x_put (pc := 81) dX0_run_81 kf_RX0_20 hS.1 rfl (Or.inl kb_0_1) ?_
  refine x_aload_n (pc := 84) dX0_run_84 rfl rfl ?_
  refine x_getr (pc := 85) dX0_run_85 kf_RX0_16 hS.1 rfl hS.2.1 ?_
  refine x_iload (pc := 88) dX0_run_88 rfl ?_
  refine x_callV (pc := 90) (As := [.int _]) dX0_run_90 km_X5_add kv_X5_add kl_RX0_44 hS.2.2.1 rfl rfl (by decide) ⟨Nat.le_refl _, Nat.le_refl _⟩ rfl (Nat.le_of_ble_eq_true rfl) (Nat.le_of_ble_eq_true rfl) (c_add (x := 51) (m := r) hS.2.2 ((congrFun (up2_row (by omega)) 1).trans hA.2.2.2.2.1) (by omega) (⟨rfl, rfl, ?_⟩))
  have h0 := hA.step (x := 51) (a := 51) rfl
  have g0 := @atF.st I ac 1 r 1 (nI (r + 1)) 51 (nI (r + 1))
  refine x_iload (pc := 93) dX0_run_93 rfl ?_
  refine x_lsw (pc := 95) (dt := 362) [(10, 192), (11, 199), (12, 217), (20, 232), (30, 246), (40, 259), (50, 283), (51, 295), (60, 308), (70, 324), (71, 346)] dX0_run_95 (by decide +kernel) (by decide +kernel) (by decide) ?_
  refine xsw_c (fun h => absurd h (by decide)) (fun _ => ?_)
  refine xsw_c (fun h => absurd h (by decide)) (fun _ => ?_)
  refine xsw_c (fun h => absurd h (by decide)) (fun _ => ?_)
  refine xsw_c (fun h => absurd h (by decide)) (fun _ => ?_)
  refine xsw_c (fun h => absurd h (by decide)) (fun _ => ?_)
  refine xsw_c (fun h => absurd h (by decide)) (fun _ => ?_)
  refine xsw_c (fun h => absurd h (by decide)) (fun _ => ?_)
  refine xsw_c (fun _ => ?_) (fun h => absurd rfl h)
  refine x_aload_n (pc := 295) dX0_run_295 rfl rfl ?_
  refine x_iconst (pc := 296) (v := 1) dX0_run_296 (by decide) ?_
  refine x_iload (pc := 297) dX0_run_297 rfl ?_
  refine x_iload_n (pc := 299) dX0_run_299 rfl rfl ?_
  refine x_iconst (pc := 300) (v := 1) dX0_run_300 (by decide) ?_
  refine x_iadd (pc := 301) dX0_run_301 ?_
  refine x_iload (pc := 302) dX0_run_302 rfl ?_
  refine x_callS (pc := 304) (As := [.ref _, .int _, .int _, .int _, .int _]) dX0_run_304 km_X0_run ks_X0_run kl_RX0_47 rfl (by decide) ⟨Nat.le_refl _, Nat.le_refl _⟩ rfl (Nat.le_of_ble_eq_true rfl) (Nat.le_of_ble_eq_true rfl) (c_run_4_1_1 (dd := dd + 1) hS h0 (by omega) (by omega) (fun J1 h1 f1 => ⟨rfl, rfl, ?_⟩))
  have g1 := g0.tr f1
  refine x_ireturn (pc := 307) dX0_run_307 ⟨_, rfl, rfl⟩ ⟨Nat.le_refl _, Nat.le_refl _⟩ ?_
  exact K _ h1 g1

set_option maxHeartbeats 4000000 in
set_option maxRecDepth 100000 in
theorem c_run_4_2_4 {T : xT} {n : Nat} {sh : Nat → Nat × Nat} {I : xI} {R : xR} {L : xL} {P : xPost} {ac v b r : Nat} {f : Nat → Nat} (hS : sh ac = (0, 0) ∧ R ac 0 = some (ac + 1) ∧ xRow sh R (ac + 1) (ac + 2) 20) {x : Int32} {dd : Nat} (hA : ATC I ac 4 v b r f) (hr : r + 6 ≤ 20) (hd : dd + 6 ≤ 20) (K : ∀ J : xI, ATC J ac 4 v b (r + 6) (apL f r [12, 51, 20, 11, 50, 10]) → atF ac I J → P (n, sh, 0, 0) J R L (some (.int ((((-((x + 1) + nI b)) - nI v) ^^^ 6) * 2)))) : XM T zX0_run 6 [.ref ac, .int 2, .int 4, .int x, .int (nI dd)] n sh I R L P := by
  refine x_iload (pc := 0) dX0_run_0 rfl ?_
  refine x_bipush (pc := 2) (v := 20) dX0_run_2 (by decide) ?_
  refine x_icmpn_le_t (pc := 4) (tgt := 9) (a := dd) (b := 20) dX0_run_4 (by decide) (by omega) (by decide) (by omega) ?_
  refine x_iload_n (pc := 9) dX0_run_9 rfl rfl ?_
  refine x_istore (pc := 10) (lv' := [(0, .ref ac), (1, .int 2), (2, .int 4), (3, .int x), (4, .int (nI dd)), (5, .int 4)]) dX0_run_10 (by decide) rfl ?_
  refine x_iconst (pc := 12) (v := 0) dX0_run_12 (by decide) ?_
  refine x_istore (pc := 13) (lv' := [(0, .ref ac), (1, .int 2), (2, .int 4), (3, .int x), (4, .int (nI dd)), (5, .int 4), (6, .int 0)]) dX0_run_13 (by decide) rfl ?_
  refine x_iload (pc := 15) dX0_run_15 rfl ?_
  refine x_bipush (pc := 17) (v := 7) dX0_run_17 (by decide) ?_
  refine x_icmp_ge_f (pc := 19) (tgt := 45) dX0_run_19 (by decide) (by decide) ?_
  refine x_iload (pc := 22) dX0_run_22 rfl ?_
  refine x_iload_n (pc := 24) dX0_run_24 rfl rfl ?_
  refine x_callS (pc := 25) (As := [.int _, .int _]) dX0_run_25 km_X0_bodyOf ks_X0_bodyOf kl_RX0_36 rfl (by decide) ⟨Nat.le_refl _, Nat.le_refl _⟩ rfl (Nat.le_of_ble_eq_true rfl) (Nat.le_of_ble_eq_true rfl) (c_bodyOf_4_2 (⟨rfl, rfl, ?_⟩))
  refine x_iconst (pc := 28) (v := -1) dX0_run_28 (by decide) ?_
  refine x_icmp_ne_f (pc := 29) (tgt := 45) dX0_run_29 (by decide) (by decide) ?_
  refine x_iload (pc := 32) dX0_run_32 rfl ?_
  refine x_callSN (pc := 34) (As := [.int _]) dX0_run_34 km_X9_kindAbove ks_X9_kindAbove kn_RX0_40 rfl (by decide) ⟨Nat.le_refl _, Nat.le_refl _⟩ rfl (Nat.le_of_ble_eq_true rfl) (Nat.le_of_ble_eq_true rfl) (c_kindAbove (k := 4) (by decide) (⟨rfl, rfl, ?_⟩))
  rw [show kAbI 4 = 1 from rfl]
  refine x_istore (pc := 37) (lv' := [(0, .ref ac), (1, .int 2), (2, .int 4), (3, .int x), (4, .int (nI dd)), (5, .int 1), (6, .int 0)]) dX0_run_37 (by decide) rfl ?_
  refine x_iinc (pc := 39) (v := 1) (lv' := [(0, .ref ac), (1, .int 2), (2, .int 4), (3, .int x), (4, .int (nI dd)), (5, .int 1), (6, .int 1)]) dX0_run_39 rfl (by decide) (by decide) rfl ?_
  refine x_goto (pc := 42) (tgt := 15) dX0_run_42 (by decide) ?_
  refine x_iload (pc := 15) dX0_run_15 rfl ?_
  refine x_bipush (pc := 17) (v := 7) dX0_run_17 (by decide) ?_
  refine x_icmp_ge_f (pc := 19) (tgt := 45) dX0_run_19 (by decide) (by decide) ?_
  refine x_iload (pc := 22) dX0_run_22 rfl ?_
  refine x_iload_n (pc := 24) dX0_run_24 rfl rfl ?_
  refine x_callS (pc := 25) (As := [.int _, .int _]) dX0_run_25 km_X0_bodyOf ks_X0_bodyOf kl_RX0_36 rfl (by decide) ⟨Nat.le_refl _, Nat.le_refl _⟩ rfl (Nat.le_of_ble_eq_true rfl) (Nat.le_of_ble_eq_true rfl) (c_bodyOf_1_2 (⟨rfl, rfl, ?_⟩))
  refine x_iconst (pc := 28) (v := -1) dX0_run_28 (by decide) ?_
  refine x_icmp_ne_f (pc := 29) (tgt := 45) dX0_run_29 (by decide) (by decide) ?_
  refine x_iload (pc := 32) dX0_run_32 rfl ?_
  refine x_callSN (pc := 34) (As := [.int _]) dX0_run_34 km_X9_kindAbove ks_X9_kindAbove kn_RX0_40 rfl (by decide) ⟨Nat.le_refl _, Nat.le_refl _⟩ rfl (Nat.le_of_ble_eq_true rfl) (Nat.le_of_ble_eq_true rfl) (c_kindAbove (k := 1) (by decide) (⟨rfl, rfl, ?_⟩))
  rw [show kAbI 1 = 0 from rfl]
  refine x_istore (pc := 37) (lv' := [(0, .ref ac), (1, .int 2), (2, .int 4), (3, .int x), (4, .int (nI dd)), (5, .int 0), (6, .int 1)]) dX0_run_37 (by decide) rfl ?_
  refine x_iinc (pc := 39) (v := 2) (lv' := [(0, .ref ac), (1, .int 2), (2, .int 4), (3, .int x), (4, .int (nI dd)), (5, .int 0), (6, .int 2)]) dX0_run_39 rfl (by decide) (by decide) rfl ?_
  refine x_goto (pc := 42) (tgt := 15) dX0_run_42 (by decide) ?_
  refine x_iload (pc := 15) dX0_run_15 rfl ?_
  refine x_bipush (pc := 17) (v := 7) dX0_run_17 (by decide) ?_
  refine x_icmp_ge_f (pc := 19) (tgt := 45) dX0_run_19 (by decide) (by decide) ?_
  refine x_iload (pc := 22) dX0_run_22 rfl ?_
  refine x_iload_n (pc := 24) dX0_run_24 rfl rfl ?_
  refine x_callS (pc := 25) (As := [.int _, .int _]) dX0_run_25 km_X0_bodyOf ks_X0_bodyOf kl_RX0_36 rfl (by decide) ⟨Nat.le_refl _, Nat.le_refl _⟩ rfl (Nat.le_of_ble_eq_true rfl) (Nat.le_of_ble_eq_true rfl) (c_bodyOf_0_2 (⟨rfl, rfl, ?_⟩))
  refine x_iconst (pc := 28) (v := -1) dX0_run_28 (by decide) ?_
  refine x_icmp_ne_t (pc := 29) (tgt := 45) dX0_run_29 (by decide) (by decide) ?_
  refine x_iload (pc := 45) dX0_run_45 rfl ?_
  refine x_iload_n (pc := 47) dX0_run_47 rfl rfl ?_
  refine x_callS (pc := 48) (As := [.int _, .int _]) dX0_run_48 km_X0_bodyOf ks_X0_bodyOf kl_RX0_36 rfl (by decide) ⟨Nat.le_refl _, Nat.le_refl _⟩ rfl (Nat.le_of_ble_eq_true rfl) (Nat.le_of_ble_eq_true rfl) (c_bodyOf_0_2 (⟨rfl, rfl, ?_⟩))
  refine x_istore (pc := 51) (lv' := [(0, .ref ac), (1, .int 2), (2, .int 4), (3, .int x), (4, .int (nI dd)), (5, .int 0), (6, .int 12)]) dX0_run_51 (by decide) rfl ?_
  refine x_iload (pc := 53) dX0_run_53 rfl ?_
  refine x_iconst (pc := 55) (v := -1) dX0_run_55 (by decide) ?_
  refine x_icmp_ne_t (pc := 56) (tgt := 61) dX0_run_56 (by decide) (by decide) ?_
  refine x_iload (pc := 61) dX0_run_61 rfl ?_
  refine x_callSN (pc := 63) (As := [.int _]) dX0_run_63 km_X9_kindAbove ks_X9_kindAbove kn_RX0_40 rfl (by decide) ⟨Nat.le_refl _, Nat.le_refl _⟩ rfl (Nat.le_of_ble_eq_true rfl) (Nat.le_of_ble_eq_true rfl) (c_kindAbove (k := 0) (by decide) (⟨rfl, rfl, ?_⟩))
  rw [show kAbI 0 = (-1) from rfl]
  refine x_istore (pc := 66) (lv' := [(0, .ref ac), (1, .int 2), (2, .int 4), (3, .int x), (4, .int (nI dd)), (5, .int 0), (6, .int 12), (7, .int (-1))]) dX0_run_66 (by decide) rfl ?_
  refine x_iload (pc := 68) dX0_run_68 rfl ?_
  refine x_iconst (pc := 70) (v := 1) dX0_run_70 (by decide) ?_
  refine x_iaddn (pc := 71) (a := dd) (b := 1) dX0_run_71 ?_
  refine x_istore (pc := 72) (lv' := [(0, .ref ac), (1, .int 2), (2, .int 4), (3, .int x), (4, .int (nI dd)), (5, .int 0), (6, .int 12), (7, .int (-1)), (8, .int (nI (dd + 1)))]) dX0_run_72 (by decide) rfl ?_
  refine x_aload_n (pc := 74) dX0_run_74 rfl rfl ?_
  refine x_dup (pc := 75) dX0_run_75 rfl ?_
  refine x_get (pc := 76) dX0_run_76 kf_RX0_20 hS.1 rfl ?_
  rw [show I ac 1 = nI r from hA.1]
  refine x_iconst (pc := 79) (v := 1) dX0_run_79 (by decide) ?_
  refine x_iaddn (pc := 80) (a := r) (b := 1) dX0_run_80 ?_
  refine x_put (pc := 81) dX0_run_81 kf_RX0_20 hS.1 rfl (Or.inl kb_0_1) ?_
  refine x_aload_n (pc := 84) dX0_run_84 rfl rfl ?_
  refine x_getr (pc := 85) dX0_run_85 kf_RX0_16 hS.1 rfl hS.2.1 ?_
  refine x_iload (pc := 88) dX0_run_88 rfl ?_
  refine x_callV (pc := 90) (As := [.int _]) dX0_run_90 km_X5_add kv_X5_add kl_RX0_44 hS.2.2.1 rfl rfl (by decide) ⟨Nat.le_refl _, Nat.le_refl _⟩ rfl (Nat.le_of_ble_eq_true rfl) (Nat.le_of_ble_eq_true rfl) (c_add (x := 12) (m := r) hS.2.2 ((congrFun (up2_row (by omega)) 1).trans hA.2.2.2.2.1) (by omega) (⟨rfl, rfl, ?_⟩))
  have h0 := hA.step (x := 12) (a := 12) rfl
  have g0 := @atF.st I ac 1 r 1 (nI (r + 1)) 12 (nI (r + 1))
  refine x_iload (pc := 93) dX0_run_93 rfl ?_
  refine x_lsw (pc := 95) (dt := 362) [(10, 192), (11, 199), (12, 217), (20, 232), (30, 246), (40, 259), (50, 283), (51, 295), (60, 308), (70, 324), (71, 346)] dX0_run_95 (by decide +kernel) (by decide +kernel) (by decide) ?_
  refine xsw_c (fun h => absurd h (by decide)) (fun _ => ?_)
  refine xsw_c (fun h => absurd h (by decide)) (fun _ => ?_)
  refine xsw_c (fun _ => ?_) (fun h => absurd rfl h)
  refine x_aload_n (pc := 217) dX0_run_217 rfl rfl ?_
  refine x_iconst (pc := 218) (v := 1) dX0_run_218 (by decide) ?_
  refine x_aload_n (pc := 219) dX0_run_219 rfl rfl ?_
  refine x_get (pc := 220) dX0_run_220 kf_RX0_24 hS.1 rfl ?_
  rw [show _ = (4 : Int32) from h0.2.1]
  refine x_iload_n (pc := 223) dX0_run_223 rfl rfl ?_
  refine x_iload (pc := 224) dX0_run_224 rfl ?_
  refine x_callS (pc := 226) (As := [.ref _, .int _, .int _, .int _, .int _]) dX0_run_226 km_X0_run ks_X0_run kl_RX0_47 rfl (by decide) ⟨Nat.le_refl _, Nat.le_refl _⟩ rfl (Nat.le_of_ble_eq_true rfl) (Nat.le_of_ble_eq_true rfl) (c_run_4_1_4 (dd := dd + 1) hS h0 (by omega) (by omega) (fun J1 h1 f1 => ⟨rfl, rfl, ?_⟩))
  have g1 := g0.tr f1
  refine x_iconst (pc := 229) (v := 2) dX0_run_229 (by decide) ?_
  refine x_imul (pc := 230) dX0_run_230 ?_
  refine x_ireturn (pc := 231) dX0_run_231 ⟨_, rfl, rfl⟩ ⟨Nat.le_refl _, Nat.le_refl _⟩ ?_
  exact K _ h1 g1

set_option maxHeartbeats 4000000 in
set_option maxRecDepth 100000 in
theorem c_run_5_0_5 {T : xT} {n : Nat} {sh : Nat → Nat × Nat} {I : xI} {R : xR} {L : xL} {P : xPost} {ac v b r : Nat} {f : Nat → Nat} (hS : sh ac = (0, 0) ∧ R ac 0 = some (ac + 1) ∧ xRow sh R (ac + 1) (ac + 2) 20) {x : Int32} {dd : Nat} (hA : ATC I ac 5 v b r f) (hr : r + 1 ≤ 20) (hd : dd + 1 ≤ 20) (K : ∀ J : xI, ATC J ac 5 v b (r + 1) (apL f r [10]) → atF ac I J → P (n, sh, 0, 0) J R L (some (.int (x + nI b)))) : XM T zX0_run 1 [.ref ac, .int 0, .int 5, .int x, .int (nI dd)] n sh I R L P := by
  refine x_iload (pc := 0) dX0_run_0 rfl ?_
  refine x_bipush (pc := 2) (v := 20) dX0_run_2 (by decide) ?_
  refine x_icmpn_le_t (pc := 4) (tgt := 9) (a := dd) (b := 20) dX0_run_4 (by decide) (by omega) (by decide) (by omega) ?_
  refine x_iload_n (pc := 9) dX0_run_9 rfl rfl ?_
  refine x_istore (pc := 10) (lv' := [(0, .ref ac), (1, .int 0), (2, .int 5), (3, .int x), (4, .int (nI dd)), (5, .int 5)]) dX0_run_10 (by decide) rfl ?_
  refine x_iconst (pc := 12) (v := 0) dX0_run_12 (by decide) ?_
  refine x_istore (pc := 13) (lv' := [(0, .ref ac), (1, .int 0), (2, .int 5), (3, .int x), (4, .int (nI dd)), (5, .int 5), (6, .int 0)]) dX0_run_13 (by decide) rfl ?_
  refine x_iload (pc := 15) dX0_run_15 rfl ?_
  refine x_bipush (pc := 17) (v := 7) dX0_run_17 (by decide) ?_
  refine x_icmp_ge_f (pc := 19) (tgt := 45) dX0_run_19 (by decide) (by decide) ?_
  refine x_iload (pc := 22) dX0_run_22 rfl ?_
  refine x_iload_n (pc := 24) dX0_run_24 rfl rfl ?_
  refine x_callS (pc := 25) (As := [.int _, .int _]) dX0_run_25 km_X0_bodyOf ks_X0_bodyOf kl_RX0_36 rfl (by decide) ⟨Nat.le_refl _, Nat.le_refl _⟩ rfl (Nat.le_of_ble_eq_true rfl) (Nat.le_of_ble_eq_true rfl) (c_bodyOf_5_0 (⟨rfl, rfl, ?_⟩))
  refine x_iconst (pc := 28) (v := -1) dX0_run_28 (by decide) ?_
  refine x_icmp_ne_f (pc := 29) (tgt := 45) dX0_run_29 (by decide) (by decide) ?_
  refine x_iload (pc := 32) dX0_run_32 rfl ?_
  refine x_callSN (pc := 34) (As := [.int _]) dX0_run_34 km_X9_kindAbove ks_X9_kindAbove kn_RX0_40 rfl (by decide) ⟨Nat.le_refl _, Nat.le_refl _⟩ rfl (Nat.le_of_ble_eq_true rfl) (Nat.le_of_ble_eq_true rfl) (c_kindAbove (k := 5) (by decide) (⟨rfl, rfl, ?_⟩))
  rw [show kAbI 5 = 1 from rfl]
  refine x_istore (pc := 37) (lv' := [(0, .ref ac), (1, .int 0), (2, .int 5), (3, .int x), (4, .int (nI dd)), (5, .int 1), (6, .int 0)]) dX0_run_37 (by decide) rfl ?_
  refine x_iinc (pc := 39) (v := 1) (lv' := [(0, .ref ac), (1, .int 0), (2, .int 5), (3, .int x), (4, .int (nI dd)), (5, .int 1), (6, .int 1)]) dX0_run_39 rfl (by decide) (by decide) rfl ?_
  refine x_goto (pc := 42) (tgt := 15) dX0_run_42 (by decide) ?_
  refine x_iload (pc := 15) dX0_run_15 rfl ?_
  refine x_bipush (pc := 17) (v := 7) dX0_run_17 (by decide) ?_
  refine x_icmp_ge_f (pc := 19) (tgt := 45) dX0_run_19 (by decide) (by decide) ?_
  refine x_iload (pc := 22) dX0_run_22 rfl ?_
  refine x_iload_n (pc := 24) dX0_run_24 rfl rfl ?_
  refine x_callS (pc := 25) (As := [.int _, .int _]) dX0_run_25 km_X0_bodyOf ks_X0_bodyOf kl_RX0_36 rfl (by decide) ⟨Nat.le_refl _, Nat.le_refl _⟩ rfl (Nat.le_of_ble_eq_true rfl) (Nat.le_of_ble_eq_true rfl) (c_bodyOf_1_0 (⟨rfl, rfl, ?_⟩))
  refine x_iconst (pc := 28) (v := -1) dX0_run_28 (by decide) ?_
  refine x_icmp_ne_f (pc := 29) (tgt := 45) dX0_run_29 (by decide) (by decide) ?_
  refine x_iload (pc := 32) dX0_run_32 rfl ?_
  refine x_callSN (pc := 34) (As := [.int _]) dX0_run_34 km_X9_kindAbove ks_X9_kindAbove kn_RX0_40 rfl (by decide) ⟨Nat.le_refl _, Nat.le_refl _⟩ rfl (Nat.le_of_ble_eq_true rfl) (Nat.le_of_ble_eq_true rfl) (c_kindAbove (k := 1) (by decide) (⟨rfl, rfl, ?_⟩))
  rw [show kAbI 1 = 0 from rfl]
  refine x_istore (pc := 37) (lv' := [(0, .ref ac), (1, .int 0), (2, .int 5), (3, .int x), (4, .int (nI dd)), (5, .int 0), (6, .int 1)]) dX0_run_37 (by decide) rfl ?_
  refine x_iinc (pc := 39) (v := 2) (lv' := [(0, .ref ac), (1, .int 0), (2, .int 5), (3, .int x), (4, .int (nI dd)), (5, .int 0), (6, .int 2)]) dX0_run_39 rfl (by decide) (by decide) rfl ?_
  refine x_goto (pc := 42) (tgt := 15) dX0_run_42 (by decide) ?_
  refine x_iload (pc := 15) dX0_run_15 rfl ?_
  refine x_bipush (pc := 17) (v := 7) dX0_run_17 (by decide) ?_
  refine x_icmp_ge_f (pc := 19) (tgt := 45) dX0_run_19 (by decide) (by decide) ?_
  refine x_iload (pc := 22) dX0_run_22 rfl ?_
  refine x_iload_n (pc := 24) dX0_run_24 rfl rfl ?_
  refine x_callS (pc := 25) (As := [.int _, .int _]) dX0_run_25 km_X0_bodyOf ks_X0_bodyOf kl_RX0_36 rfl (by decide) ⟨Nat.le_refl _, Nat.le_refl _⟩ rfl (Nat.le_of_ble_eq_true rfl) (Nat.le_of_ble_eq_true rfl) (c_bodyOf_0_0 (⟨rfl, rfl, ?_⟩))
  refine x_iconst (pc := 28) (v := -1) dX0_run_28 (by decide) ?_
  refine x_icmp_ne_t (pc := 29) (tgt := 45) dX0_run_29 (by decide) (by decide) ?_
  refine x_iload (pc := 45) dX0_run_45 rfl ?_
  refine x_iload_n (pc := 47) dX0_run_47 rfl rfl ?_
  refine x_callS (pc := 48) (As := [.int _, .int _]) dX0_run_48 km_X0_bodyOf ks_X0_bodyOf kl_RX0_36 rfl (by decide) ⟨Nat.le_refl _, Nat.le_refl _⟩ rfl (Nat.le_of_ble_eq_true rfl) (Nat.le_of_ble_eq_true rfl) (c_bodyOf_0_0 (⟨rfl, rfl, ?_⟩))
  refine x_istore (pc := 51) (lv' := [(0, .ref ac), (1, .int 0), (2, .int 5), (3, .int x), (4, .int (nI dd)), (5, .int 0), (6, .int 10)]) dX0_run_51 (by decide) rfl ?_
  refine x_iload (pc := 53) dX0_run_53 rfl ?_
  refine x_iconst (pc := 55) (v := -1) dX0_run_55 (by decide) ?_
  refine x_icmp_ne_t (pc := 56) (tgt := 61) dX0_run_56 (by decide) (by decide) ?_
  refine x_iload (pc := 61) dX0_run_61 rfl ?_
  refine x_callSN (pc := 63) (As := [.int _]) dX0_run_63 km_X9_kindAbove ks_X9_kindAbove kn_RX0_40 rfl (by decide) ⟨Nat.le_refl _, Nat.le_refl _⟩ rfl (Nat.le_of_ble_eq_true rfl) (Nat.le_of_ble_eq_true rfl) (c_kindAbove (k := 0) (by decide) (⟨rfl, rfl, ?_⟩))
  rw [show kAbI 0 = (-1) from rfl]
  refine x_istore (pc := 66) (lv' := [(0, .ref ac), (1, .int 0), (2, .int 5), (3, .int x), (4, .int (nI dd)), (5, .int 0), (6, .int 10), (7, .int (-1))]) dX0_run_66 (by decide) rfl ?_
  refine x_iload (pc := 68) dX0_run_68 rfl ?_
  refine x_iconst (pc := 70) (v := 1) dX0_run_70 (by decide) ?_
  refine x_iaddn (pc := 71) (a := dd) (b := 1) dX0_run_71 ?_
  refine x_istore (pc := 72) (lv' := [(0, .ref ac), (1, .int 0), (2, .int 5), (3, .int x), (4, .int (nI dd)), (5, .int 0), (6, .int 10), (7, .int (-1)), (8, .int (nI (dd + 1)))]) dX0_run_72 (by decide) rfl ?_
  refine x_aload_n (pc := 74) dX0_run_74 rfl rfl ?_
  refine x_dup (pc := 75) dX0_run_75 rfl ?_
  refine x_get (pc := 76) dX0_run_76 kf_RX0_20 hS.1 rfl ?_
  rw [show I ac 1 = nI r from hA.1]
  refine x_iconst (pc := 79) (v := 1) dX0_run_79 (by decide) ?_
  refine x_iaddn (pc := 80) (a := r) (b := 1) dX0_run_80 ?_
  refine x_put (pc := 81) dX0_run_81 kf_RX0_20 hS.1 rfl (Or.inl kb_0_1) ?_
  refine x_aload_n (pc := 84) dX0_run_84 rfl rfl ?_
  refine x_getr (pc := 85) dX0_run_85 kf_RX0_16 hS.1 rfl hS.2.1 ?_
  refine x_iload (pc := 88) dX0_run_88 rfl ?_
  refine x_callV (pc := 90) (As := [.int _]) dX0_run_90 km_X5_add kv_X5_add kl_RX0_44 hS.2.2.1 rfl rfl (by decide) ⟨Nat.le_refl _, Nat.le_refl _⟩ rfl (Nat.le_of_ble_eq_true rfl) (Nat.le_of_ble_eq_true rfl) (c_add (x := 10) (m := r) hS.2.2 ((congrFun (up2_row (by omega)) 1).trans hA.2.2.2.2.1) (by omega) (⟨rfl, rfl, ?_⟩))
  have h0 := hA.step (x := 10) (a := 10) rfl
  have g0 := @atF.st I ac 1 r 1 (nI (r + 1)) 10 (nI (r + 1))
  refine x_iload (pc := 93) dX0_run_93 rfl ?_
  refine x_lsw (pc := 95) (dt := 362) [(10, 192), (11, 199), (12, 217), (20, 232), (30, 246), (40, 259), (50, 283), (51, 295), (60, 308), (70, 324), (71, 346)] dX0_run_95 (by decide +kernel) (by decide +kernel) (by decide) ?_
  refine xsw_c (fun _ => ?_) (fun h => absurd rfl h)
  refine x_iload_n (pc := 192) dX0_run_192 rfl rfl ?_
  refine x_aload_n (pc := 193) dX0_run_193 rfl rfl ?_
  refine x_get (pc := 194) dX0_run_194 kf_RX0_30 hS.1 rfl ?_
  rw [show _ = (nI b : Int32) from h0.2.2.2.1]
  refine x_iadd (pc := 197) dX0_run_197 ?_
  refine x_ireturn (pc := 198) dX0_run_198 ⟨_, rfl, rfl⟩ ⟨Nat.le_refl _, Nat.le_refl _⟩ ?_
  exact K _ h0 g0

set_option maxHeartbeats 4000000 in
set_option maxRecDepth 100000 in
theorem c_run_5_1_0 {T : xT} {n : Nat} {sh : Nat → Nat × Nat} {I : xI} {R : xR} {L : xL} {P : xPost} {ac v b r : Nat} {f : Nat → Nat} (hS : sh ac = (0, 0) ∧ R ac 0 = some (ac + 1) ∧ xRow sh R (ac + 1) (ac + 2) 20) {x : Int32} {dd : Nat} (hA : ATC I ac 5 v b r f) (hr : r + 2 ≤ 20) (hd : dd + 2 ≤ 20) (K : ∀ J : xI, ATC J ac 5 v b (r + 2) (apL f r [11, 10]) → atF ac I J → P (n, sh, 0, 0) J R L (some (.int ((x + nI b) - nI v)))) : XM T zX0_run 2 [.ref ac, .int 1, .int 0, .int x, .int (nI dd)] n sh I R L P := by
  refine x_iload (pc := 0) dX0_run_0 rfl ?_
  refine x_bipush (pc := 2) (v := 20) dX0_run_2 (by decide) ?_
  refine x_icmpn_le_t (pc := 4) (tgt := 9) (a := dd) (b := 20) dX0_run_4 (by decide) (by omega) (by decide) (by omega) ?_
  refine x_iload_n (pc := 9) dX0_run_9 rfl rfl ?_
  refine x_istore (pc := 10) (lv' := [(0, .ref ac), (1, .int 1), (2, .int 0), (3, .int x), (4, .int (nI dd)), (5, .int 0)]) dX0_run_10 (by decide) rfl ?_
  refine x_iconst (pc := 12) (v := 0) dX0_run_12 (by decide) ?_
  refine x_istore (pc := 13) (lv' := [(0, .ref ac), (1, .int 1), (2, .int 0), (3, .int x), (4, .int (nI dd)), (5, .int 0), (6, .int 0)]) dX0_run_13 (by decide) rfl ?_
  refine x_iload (pc := 15) dX0_run_15 rfl ?_
  refine x_bipush (pc := 17) (v := 7) dX0_run_17 (by decide) ?_
  refine x_icmp_ge_f (pc := 19) (tgt := 45) dX0_run_19 (by decide) (by decide) ?_
  refine x_iload (pc := 22) dX0_run_22 rfl ?_
  refine x_iload_n (pc := 24) dX0_run_24 rfl rfl ?_
  refine x_callS (pc := 25) (As := [.int _, .int _]) dX0_run_25 km_X0_bodyOf ks_X0_bodyOf kl_RX0_36 rfl (by decide) ⟨Nat.le_refl _, Nat.le_refl _⟩ rfl (Nat.le_of_ble_eq_true rfl) (Nat.le_of_ble_eq_true rfl) (c_bodyOf_0_1 (⟨rfl, rfl, ?_⟩))
  refine x_iconst (pc := 28) (v := -1) dX0_run_28 (by decide) ?_
  refine x_icmp_ne_t (pc := 29) (tgt := 45) dX0_run_29 (by decide) (by decide) ?_
  refine x_iload (pc := 45) dX0_run_45 rfl ?_
  refine x_iload_n (pc := 47) dX0_run_47 rfl rfl ?_
  refine x_callS (pc := 48) (As := [.int _, .int _]) dX0_run_48 km_X0_bodyOf ks_X0_bodyOf kl_RX0_36 rfl (by decide) ⟨Nat.le_refl _, Nat.le_refl _⟩ rfl (Nat.le_of_ble_eq_true rfl) (Nat.le_of_ble_eq_true rfl) (c_bodyOf_0_1 (⟨rfl, rfl, ?_⟩))
  refine x_istore (pc := 51) (lv' := [(0, .ref ac), (1, .int 1), (2, .int 0), (3, .int x), (4, .int (nI dd)), (5, .int 0), (6, .int 11)]) dX0_run_51 (by decide) rfl ?_
  refine x_iload (pc := 53) dX0_run_53 rfl ?_
  refine x_iconst (pc := 55) (v := -1) dX0_run_55 (by decide) ?_
  refine x_icmp_ne_t (pc := 56) (tgt := 61) dX0_run_56 (by decide) (by decide) ?_
  refine x_iload (pc := 61) dX0_run_61 rfl ?_
  refine x_callSN (pc := 63) (As := [.int _]) dX0_run_63 km_X9_kindAbove ks_X9_kindAbove kn_RX0_40 rfl (by decide) ⟨Nat.le_refl _, Nat.le_refl _⟩ rfl (Nat.le_of_ble_eq_true rfl) (Nat.le_of_ble_eq_true rfl) (c_kindAbove (k := 0) (by decide) (⟨rfl, rfl, ?_⟩))
  rw [show kAbI 0 = (-1) from rfl]
  refine x_istore (pc := 66) (lv' := [(0, .ref ac), (1, .int 1), (2, .int 0), (3, .int x), (4, .int (nI dd)), (5, .int 0), (6, .int 11), (7, .int (-1))]) dX0_run_66 (by decide) rfl ?_
  refine x_iload (pc := 68) dX0_run_68 rfl ?_
  refine x_iconst (pc := 70) (v := 1) dX0_run_70 (by decide) ?_
  refine x_iaddn (pc := 71) (a := dd) (b := 1) dX0_run_71 ?_
  refine x_istore (pc := 72) (lv' := [(0, .ref ac), (1, .int 1), (2, .int 0), (3, .int x), (4, .int (nI dd)), (5, .int 0), (6, .int 11), (7, .int (-1)), (8, .int (nI (dd + 1)))]) dX0_run_72 (by decide) rfl ?_
  refine x_aload_n (pc := 74) dX0_run_74 rfl rfl ?_
  refine x_dup (pc := 75) dX0_run_75 rfl ?_
  refine x_get (pc := 76) dX0_run_76 kf_RX0_20 hS.1 rfl ?_
  rw [show I ac 1 = nI r from hA.1]
  refine x_iconst (pc := 79) (v := 1) dX0_run_79 (by decide) ?_
  refine x_iaddn (pc := 80) (a := r) (b := 1) dX0_run_80 ?_
  refine x_put (pc := 81) dX0_run_81 kf_RX0_20 hS.1 rfl (Or.inl kb_0_1) ?_
  refine x_aload_n (pc := 84) dX0_run_84 rfl rfl ?_
  refine x_getr (pc := 85) dX0_run_85 kf_RX0_16 hS.1 rfl hS.2.1 ?_
  refine x_iload (pc := 88) dX0_run_88 rfl ?_
  refine x_callV (pc := 90) (As := [.int _]) dX0_run_90 km_X5_add kv_X5_add kl_RX0_44 hS.2.2.1 rfl rfl (by decide) ⟨Nat.le_refl _, Nat.le_refl _⟩ rfl (Nat.le_of_ble_eq_true rfl) (Nat.le_of_ble_eq_true rfl) (c_add (x := 11) (m := r) hS.2.2 ((congrFun (up2_row (by omega)) 1).trans hA.2.2.2.2.1) (by omega) (⟨rfl, rfl, ?_⟩))
  have h0 := hA.step (x := 11) (a := 11) rfl
  have g0 := @atF.st I ac 1 r 1 (nI (r + 1)) 11 (nI (r + 1))
  refine x_iload (pc := 93) dX0_run_93 rfl ?_
  refine x_lsw (pc := 95) (dt := 362) [(10, 192), (11, 199), (12, 217), (20, 232), (30, 246), (40, 259), (50, 283), (51, 295), (60, 308), (70, 324), (71, 346)] dX0_run_95 (by decide +kernel) (by decide +kernel) (by decide) ?_
  refine xsw_c (fun h => absurd h (by decide)) (fun _ => ?_)
  refine xsw_c (fun _ => ?_) (fun h => absurd rfl h)
  refine x_aload_n (pc := 199) dX0_run_199 rfl rfl ?_
  refine x_iconst (pc := 200) (v := 0) dX0_run_200 (by decide) ?_
  refine x_aload_n (pc := 201) dX0_run_201 rfl rfl ?_
  refine x_get (pc := 202) dX0_run_202 kf_RX0_24 hS.1 rfl ?_
  rw [show _ = (5 : Int32) from h0.2.1]
  refine x_iload_n (pc := 205) dX0_run_205 rfl rfl ?_
  refine x_iload (pc := 206) dX0_run_206 rfl ?_
  refine x_callS (pc := 208) (As := [.ref _, .int _, .int _, .int _, .int _]) dX0_run_208 km_X0_run ks_X0_run kl_RX0_47 rfl (by decide) ⟨Nat.le_refl _, Nat.le_refl _⟩ rfl (Nat.le_of_ble_eq_true rfl) (Nat.le_of_ble_eq_true rfl) (c_run_5_0_5 (dd := dd + 1) hS h0 (by omega) (by omega) (fun J1 h1 f1 => ⟨rfl, rfl, ?_⟩))
  have g1 := g0.tr f1
  refine x_aload_n (pc := 211) dX0_run_211 rfl rfl ?_
  refine x_get (pc := 212) dX0_run_212 kf_RX0_27 hS.1 rfl ?_
  rw [show _ = (nI v : Int32) from h1.2.2.1]
  refine x_isub (pc := 215) dX0_run_215 ?_
  refine x_ireturn (pc := 216) dX0_run_216 ⟨_, rfl, rfl⟩ ⟨Nat.le_refl _, Nat.le_refl _⟩ ?_
  exact K _ h1 g1

set_option maxHeartbeats 4000000 in
set_option maxRecDepth 100000 in
theorem c_run_5_1_5 {T : xT} {n : Nat} {sh : Nat → Nat × Nat} {I : xI} {R : xR} {L : xL} {P : xPost} {ac v b r : Nat} {f : Nat → Nat} (hS : sh ac = (0, 0) ∧ R ac 0 = some (ac + 1) ∧ xRow sh R (ac + 1) (ac + 2) 20) {x : Int32} {dd : Nat} (hA : ATC I ac 5 v b r f) (hr : r + 3 ≤ 20) (hd : dd + 3 ≤ 20) (K : ∀ J : xI, ATC J ac 5 v b (r + 3) (apL f r [20, 11, 10]) → atF ac I J → P (n, sh, 0, 0) J R L (some (.int (((x + nI b) - nI v) ^^^ 6)))) : XM T zX0_run 3 [.ref ac, .int 1, .int 5, .int x, .int (nI dd)] n sh I R L P := by
  refine x_iload (pc := 0) dX0_run_0 rfl ?_
  refine x_bipush (pc := 2) (v := 20) dX0_run_2 (by decide) ?_
  refine x_icmpn_le_t (pc := 4) (tgt := 9) (a := dd) (b := 20) dX0_run_4 (by decide) (by omega) (by decide) (by omega) ?_
  refine x_iload_n (pc := 9) dX0_run_9 rfl rfl ?_
  refine x_istore (pc := 10) (lv' := [(0, .ref ac), (1, .int 1), (2, .int 5), (3, .int x), (4, .int (nI dd)), (5, .int 5)]) dX0_run_10 (by decide) rfl ?_
  refine x_iconst (pc := 12) (v := 0) dX0_run_12 (by decide) ?_
  refine x_istore (pc := 13) (lv' := [(0, .ref ac), (1, .int 1), (2, .int 5), (3, .int x), (4, .int (nI dd)), (5, .int 5), (6, .int 0)]) dX0_run_13 (by decide) rfl ?_
  refine x_iload (pc := 15) dX0_run_15 rfl ?_
  refine x_bipush (pc := 17) (v := 7) dX0_run_17 (by decide) ?_
  refine x_icmp_ge_f (pc := 19) (tgt := 45) dX0_run_19 (by decide) (by decide) ?_
  refine x_iload (pc := 22) dX0_run_22 rfl ?_
  refine x_iload_n (pc := 24) dX0_run_24 rfl rfl ?_
  refine x_callS (pc := 25) (As := [.int _, .int _]) dX0_run_25 km_X0_bodyOf ks_X0_bodyOf kl_RX0_36 rfl (by decide) ⟨Nat.le_refl _, Nat.le_refl _⟩ rfl (Nat.le_of_ble_eq_true rfl) (Nat.le_of_ble_eq_true rfl) (c_bodyOf_5_1 (⟨rfl, rfl, ?_⟩))
  refine x_iconst (pc := 28) (v := -1) dX0_run_28 (by decide) ?_
  refine x_icmp_ne_f (pc := 29) (tgt := 45) dX0_run_29 (by decide) (by decide) ?_
  refine x_iload (pc := 32) dX0_run_32 rfl ?_
  refine x_callSN (pc := 34) (As := [.int _]) dX0_run_34 km_X9_kindAbove ks_X9_kindAbove kn_RX0_40 rfl (by decide) ⟨Nat.le_refl _, Nat.le_refl _⟩ rfl (Nat.le_of_ble_eq_true rfl) (Nat.le_of_ble_eq_true rfl) (c_kindAbove (k := 5) (by decide) (⟨rfl, rfl, ?_⟩))
  rw [show kAbI 5 = 1 from rfl]
  refine x_istore (pc := 37) (lv' := [(0, .ref ac), (1, .int 1), (2, .int 5), (3, .int x), (4, .int (nI dd)), (5, .int 1), (6, .int 0)]) dX0_run_37 (by decide) rfl ?_
  refine x_iinc (pc := 39) (v := 1) (lv' := [(0, .ref ac), (1, .int 1), (2, .int 5), (3, .int x), (4, .int (nI dd)), (5, .int 1), (6, .int 1)]) dX0_run_39 rfl (by decide) (by decide) rfl ?_
  refine x_goto (pc := 42) (tgt := 15) dX0_run_42 (by decide) ?_
  refine x_iload (pc := 15) dX0_run_15 rfl ?_
  refine x_bipush (pc := 17) (v := 7) dX0_run_17 (by decide) ?_
  refine x_icmp_ge_f (pc := 19) (tgt := 45) dX0_run_19 (by decide) (by decide) ?_
  refine x_iload (pc := 22) dX0_run_22 rfl ?_
  refine x_iload_n (pc := 24) dX0_run_24 rfl rfl ?_
  refine x_callS (pc := 25) (As := [.int _, .int _]) dX0_run_25 km_X0_bodyOf ks_X0_bodyOf kl_RX0_36 rfl (by decide) ⟨Nat.le_refl _, Nat.le_refl _⟩ rfl (Nat.le_of_ble_eq_true rfl) (Nat.le_of_ble_eq_true rfl) (c_bodyOf_1_1 (⟨rfl, rfl, ?_⟩))
  refine x_iconst (pc := 28) (v := -1) dX0_run_28 (by decide) ?_
  refine x_icmp_ne_t (pc := 29) (tgt := 45) dX0_run_29 (by decide) (by decide) ?_
  refine x_iload (pc := 45) dX0_run_45 rfl ?_
  refine x_iload_n (pc := 47) dX0_run_47 rfl rfl ?_
  refine x_callS (pc := 48) (As := [.int _, .int _]) dX0_run_48 km_X0_bodyOf ks_X0_bodyOf kl_RX0_36 rfl (by decide) ⟨Nat.le_refl _, Nat.le_refl _⟩ rfl (Nat.le_of_ble_eq_true rfl) (Nat.le_of_ble_eq_true rfl) (c_bodyOf_1_1 (⟨rfl, rfl, ?_⟩))
  refine x_istore (pc := 51) (lv' := [(0, .ref ac), (1, .int 1), (2, .int 5), (3, .int x), (4, .int (nI dd)), (5, .int 1), (6, .int 20)]) dX0_run_51 (by decide) rfl ?_
  refine x_iload (pc := 53) dX0_run_53 rfl ?_
  refine x_iconst (pc := 55) (v := -1) dX0_run_55 (by decide) ?_
  refine x_icmp_ne_t (pc := 56) (tgt := 61) dX0_run_56 (by decide) (by decide) ?_
  refine x_iload (pc := 61) dX0_run_61 rfl ?_
  refine x_callSN (pc := 63) (As := [.int _]) dX0_run_63 km_X9_kindAbove ks_X9_kindAbove kn_RX0_40 rfl (by decide) ⟨Nat.le_refl _, Nat.le_refl _⟩ rfl (Nat.le_of_ble_eq_true rfl) (Nat.le_of_ble_eq_true rfl) (c_kindAbove (k := 1) (by decide) (⟨rfl, rfl, ?_⟩))
  rw [show kAbI 1 = 0 from rfl]
  refine x_istore (pc := 66) (lv' := [(0, .ref ac), (1, .int 1), (2, .int 5), (3, .int x), (4, .int (nI dd)), (5, .int 1), (6, .int 20), (7, .int 0)]) dX0_run_66 (by decide) rfl ?_
  refine x_iload (pc := 68) dX0_run_68 rfl ?_
  refine x_iconst (pc := 70) (v := 1) dX0_run_70 (by decide) ?_
  refine x_iaddn (pc := 71) (a := dd) (b := 1) dX0_run_71 ?_
  refine x_istore (pc := 72) (lv' := [(0, .ref ac), (1, .int 1), (2, .int 5), (3, .int x), (4, .int (nI dd)), (5, .int 1), (6, .int 20), (7, .int 0), (8, .int (nI (dd + 1)))]) dX0_run_72 (by decide) rfl ?_
  refine x_aload_n (pc := 74) dX0_run_74 rfl rfl ?_
  refine x_dup (pc := 75) dX0_run_75 rfl ?_
  refine x_get (pc := 76) dX0_run_76 kf_RX0_20 hS.1 rfl ?_
  rw [show I ac 1 = nI r from hA.1]
  refine x_iconst (pc := 79) (v := 1) dX0_run_79 (by decide) ?_
  refine x_iaddn (pc := 80) (a := r) (b := 1) dX0_run_80 ?_
  refine x_put (pc := 81) dX0_run_81 kf_RX0_20 hS.1 rfl (Or.inl kb_0_1) ?_
  refine x_aload_n (pc := 84) dX0_run_84 rfl rfl ?_
  refine x_getr (pc := 85) dX0_run_85 kf_RX0_16 hS.1 rfl hS.2.1 ?_
  refine x_iload (pc := 88) dX0_run_88 rfl ?_
  refine x_callV (pc := 90) (As := [.int _]) dX0_run_90 km_X5_add kv_X5_add kl_RX0_44 hS.2.2.1 rfl rfl (by decide) ⟨Nat.le_refl _, Nat.le_refl _⟩ rfl (Nat.le_of_ble_eq_true rfl) (Nat.le_of_ble_eq_true rfl) (c_add (x := 20) (m := r) hS.2.2 ((congrFun (up2_row (by omega)) 1).trans hA.2.2.2.2.1) (by omega) (⟨rfl, rfl, ?_⟩))
  have h0 := hA.step (x := 20) (a := 20) rfl
  have g0 := @atF.st I ac 1 r 1 (nI (r + 1)) 20 (nI (r + 1))
  refine x_iload (pc := 93) dX0_run_93 rfl ?_
  refine x_lsw (pc := 95) (dt := 362) [(10, 192), (11, 199), (12, 217), (20, 232), (30, 246), (40, 259), (50, 283), (51, 295), (60, 308), (70, 324), (71, 346)] dX0_run_95 (by decide +kernel) (by decide +kernel) (by decide) ?_
  refine xsw_c (fun h => absurd h (by decide)) (fun _ => ?_)
  refine xsw_c (fun h => absurd h (by decide)) (fun _ => ?_)
  refine xsw_c (fun h => absurd h (by decide)) (fun _ => ?_)
  refine xsw_c (fun _ => ?_) (fun h => absurd rfl h)
  refine x_aload_n (pc := 232) dX0_run_232 rfl rfl ?_
  refine x_iconst (pc := 233) (v := 1) dX0_run_233 (by decide) ?_
  refine x_iload (pc := 234) dX0_run_234 rfl ?_
  refine x_iload_n (pc := 236) dX0_run_236 rfl rfl ?_
  refine x_iload (pc := 237) dX0_run_237 rfl ?_
  refine x_callS (pc := 239) (As := [.ref _, .int _, .int _, .int _, .int _]) dX0_run_239 km_X0_run ks_X0_run kl_RX0_47 rfl (by decide) ⟨Nat.le_refl _, Nat.le_refl _⟩ rfl (Nat.le_of_ble_eq_true rfl) (Nat.le_of_ble_eq_true rfl) (c_run_5_1_0 (dd := dd + 1) hS h0 (by omega) (by omega) (fun J1 h1 f1 => ⟨rfl, rfl, ?_⟩))
  have g1 := g0.tr f1
  refine x_bipush (pc := 242) (v := 6) dX0_run_242 (by decide) ?_
  refine x_ixor (pc := 244) dX0_run_244 ?_
  refine x_ireturn (pc := 245) dX0_run_245 ⟨_, rfl, rfl⟩ ⟨Nat.le_refl _, Nat.le_refl _⟩ ?_
  exact K _ h1 g1

set_option maxHeartbeats 4000000 in
set_option maxRecDepth 100000 in
theorem c_run_5_2_1 {T : xT} {n : Nat} {sh : Nat → Nat × Nat} {I : xI} {R : xR} {L : xL} {P : xPost} {ac v b r : Nat} {f : Nat → Nat} (hS : sh ac = (0, 0) ∧ R ac 0 = some (ac + 1) ∧ xRow sh R (ac + 1) (ac + 2) 20) {x : Int32} {dd : Nat} (hA : ATC I ac 5 v b r f) (hr : r + 4 ≤ 20) (hd : dd + 4 ≤ 20) (K : ∀ J : xI, ATC J ac 5 v b (r + 4) (apL f r [12, 20, 11, 10]) → atF ac I J → P (n, sh, 0, 0) J R L (some (.int ((((x + nI b) - nI v) ^^^ 6) * 2)))) : XM T zX0_run 4 [.ref ac, .int 2, .int 1, .int x, .int (nI dd)] n sh I R L P := by
  refine x_iload (pc := 0) dX0_run_0 rfl ?_
  refine x_bipush (pc := 2) (v := 20) dX0_run_2 (by decide) ?_
  refine x_icmpn_le_t (pc := 4) (tgt := 9) (a := dd) (b := 20) dX0_run_4 (by decide) (by omega) (by decide) (by omega) ?_
  refine x_iload_n (pc := 9) dX0_run_9 rfl rfl ?_
  refine x_istore (pc := 10) (lv' := [(0, .ref ac), (1, .int 2), (2, .int 1), (3, .int x), (4, .int (nI dd)), (5, .int 1)]) dX0_run_10 (by decide) rfl ?_
  refine x_iconst (pc := 12) (v := 0) dX0_run_12 (by decide) ?_
  refine x_istore (pc := 13) (lv' := [(0, .ref ac), (1, .int 2), (2, .int 1), (3, .int x), (4, .int (nI dd)), (5, .int 1), (6, .int 0)]) dX0_run_13 (by decide) rfl ?_
  refine x_iload (pc := 15) dX0_run_15 rfl ?_
  refine x_bipush (pc := 17) (v := 7) dX0_run_17 (by decide) ?_
  refine x_icmp_ge_f (pc := 19) (tgt := 45) dX0_run_19 (by decide) (by decide) ?_
  refine x_iload (pc := 22) dX0_run_22 rfl ?_
  refine x_iload_n (pc := 24) dX0_run_24 rfl rfl ?_
  refine x_callS (pc := 25) (As := [.int _, .int _]) dX0_run_25 km_X0_bodyOf ks_X0_bodyOf kl_RX0_36 rfl (by decide) ⟨Nat.le_refl _, Nat.le_refl _⟩ rfl (Nat.le_of_ble_eq_true rfl) (Nat.le_of_ble_eq_true rfl) (c_bodyOf_1_2 (⟨rfl, rfl, ?_⟩))
  refine x_iconst (pc := 28) (v := -1) dX0_run_28 (by decide) ?_
  refine x_icmp_ne_f (pc := 29) (tgt := 45) dX0_run_29 (by decide) (by decide) ?_
  refine x_iload (pc := 32) dX0_run_32 rfl ?_
  refine x_callSN (pc := 34) (As := [.int _]) dX0_run_34 km_X9_kindAbove ks_X9_kindAbove kn_RX0_40 rfl (by decide) ⟨Nat.le_refl _, Nat.le_refl _⟩ rfl (Nat.le_of_ble_eq_true rfl) (Nat.le_of_ble_eq_true rfl) (c_kindAbove (k := 1) (by decide) (⟨rfl, rfl, ?_⟩))
  rw [show kAbI 1 = 0 from rfl]
  refine x_istore (pc := 37) (lv' := [(0, .ref ac), (1, .int 2), (2, .int 1), (3, .int x), (4, .int (nI dd)), (5, .int 0), (6, .int 0)]) dX0_run_37 (by decide) rfl ?_
  refine x_iinc (pc := 39) (v := 1) (lv' := [(0, .ref ac), (1, .int 2), (2, .int 1), (3, .int x), (4, .int (nI dd)), (5, .int 0), (6, .int 1)]) dX0_run_39 rfl (by decide) (by decide) rfl ?_
  refine x_goto (pc := 42) (tgt := 15) dX0_run_42 (by decide) ?_
  refine x_iload (pc := 15) dX0_run_15 rfl ?_
  refine x_bipush (pc := 17) (v := 7) dX0_run_17 (by decide) ?_
  refine x_icmp_ge_f (pc := 19) (tgt := 45) dX0_run_19 (by decide) (by decide) ?_
  refine x_iload (pc := 22) dX0_run_22 rfl ?_
  refine x_iload_n (pc := 24) dX0_run_24 rfl rfl ?_
  refine x_callS (pc := 25) (As := [.int _, .int _]) dX0_run_25 km_X0_bodyOf ks_X0_bodyOf kl_RX0_36 rfl (by decide) ⟨Nat.le_refl _, Nat.le_refl _⟩ rfl (Nat.le_of_ble_eq_true rfl) (Nat.le_of_ble_eq_true rfl) (c_bodyOf_0_2 (⟨rfl, rfl, ?_⟩))
  refine x_iconst (pc := 28) (v := -1) dX0_run_28 (by decide) ?_
  refine x_icmp_ne_t (pc := 29) (tgt := 45) dX0_run_29 (by decide) (by decide) ?_
  refine x_iload (pc := 45) dX0_run_45 rfl ?_
  refine x_iload_n (pc := 47) dX0_run_47 rfl rfl ?_
  refine x_callS (pc := 48) (As := [.int _, .int _]) dX0_run_48 km_X0_bodyOf ks_X0_bodyOf kl_RX0_36 rfl (by decide) ⟨Nat.le_refl _, Nat.le_refl _⟩ rfl (Nat.le_of_ble_eq_true rfl) (Nat.le_of_ble_eq_true rfl) (c_bodyOf_0_2 (⟨rfl, rfl, ?_⟩))
  refine x_istore (pc := 51) (lv' := [(0, .ref ac), (1, .int 2), (2, .int 1), (3, .int x), (4, .int (nI dd)), (5, .int 0), (6, .int 12)]) dX0_run_51 (by decide) rfl ?_
  refine x_iload (pc := 53) dX0_run_53 rfl ?_
  refine x_iconst (pc := 55) (v := -1) dX0_run_55 (by decide) ?_
  refine x_icmp_ne_t (pc := 56) (tgt := 61) dX0_run_56 (by decide) (by decide) ?_
  refine x_iload (pc := 61) dX0_run_61 rfl ?_
  refine x_callSN (pc := 63) (As := [.int _]) dX0_run_63 km_X9_kindAbove ks_X9_kindAbove kn_RX0_40 rfl (by decide) ⟨Nat.le_refl _, Nat.le_refl _⟩ rfl (Nat.le_of_ble_eq_true rfl) (Nat.le_of_ble_eq_true rfl) (c_kindAbove (k := 0) (by decide) (⟨rfl, rfl, ?_⟩))
  rw [show kAbI 0 = (-1) from rfl]
  refine x_istore (pc := 66) (lv' := [(0, .ref ac), (1, .int 2), (2, .int 1), (3, .int x), (4, .int (nI dd)), (5, .int 0), (6, .int 12), (7, .int (-1))]) dX0_run_66 (by decide) rfl ?_
  refine x_iload (pc := 68) dX0_run_68 rfl ?_
  refine x_iconst (pc := 70) (v := 1) dX0_run_70 (by decide) ?_
  refine x_iaddn (pc := 71) (a := dd) (b := 1) dX0_run_71 ?_
  refine x_istore (pc := 72) (lv' := [(0, .ref ac), (1, .int 2), (2, .int 1), (3, .int x), (4, .int (nI dd)), (5, .int 0), (6, .int 12), (7, .int (-1)), (8, .int (nI (dd + 1)))]) dX0_run_72 (by decide) rfl ?_
  refine x_aload_n (pc := 74) dX0_run_74 rfl rfl ?_
  refine x_dup (pc := 75) dX0_run_75 rfl ?_
  refine x_get (pc := 76) dX0_run_76 kf_RX0_20 hS.1 rfl ?_
  rw [show I ac 1 = nI r from hA.1]
  refine x_iconst (pc := 79) (v := 1) dX0_run_79 (by decide) ?_
  refine x_iaddn (pc := 80) (a := r) (b := 1) dX0_run_80 ?_
  refine x_put (pc := 81) dX0_run_81 kf_RX0_20 hS.1 rfl (Or.inl kb_0_1) ?_
  refine x_aload_n (pc := 84) dX0_run_84 rfl rfl ?_
  refine x_getr (pc := 85) dX0_run_85 kf_RX0_16 hS.1 rfl hS.2.1 ?_
  refine x_iload (pc := 88) dX0_run_88 rfl ?_
  refine x_callV (pc := 90) (As := [.int _]) dX0_run_90 km_X5_add kv_X5_add kl_RX0_44 hS.2.2.1 rfl rfl (by decide) ⟨Nat.le_refl _, Nat.le_refl _⟩ rfl (Nat.le_of_ble_eq_true rfl) (Nat.le_of_ble_eq_true rfl) (c_add (x := 12) (m := r) hS.2.2 ((congrFun (up2_row (by omega)) 1).trans hA.2.2.2.2.1) (by omega) (⟨rfl, rfl, ?_⟩))
  have h0 := hA.step (x := 12) (a := 12) rfl
  have g0 := @atF.st I ac 1 r 1 (nI (r + 1)) 12 (nI (r + 1))
  refine x_iload (pc := 93) dX0_run_93 rfl ?_
  refine x_lsw (pc := 95) (dt := 362) [(10, 192), (11, 199), (12, 217), (20, 232), (30, 246), (40, 259), (50, 283), (51, 295), (60, 308), (70, 324), (71, 346)] dX0_run_95 (by decide +kernel) (by decide +kernel) (by decide) ?_
  refine xsw_c (fun h => absurd h (by decide)) (fun _ => ?_)
  refine xsw_c (fun h => absurd h (by decide)) (fun _ => ?_)
  refine xsw_c (fun _ => ?_) (fun h => absurd rfl h)
  refine x_aload_n (pc := 217) dX0_run_217 rfl rfl ?_
  refine x_iconst (pc := 218) (v := 1) dX0_run_218 (by decide) ?_
  refine x_aload_n (pc := 219) dX0_run_219 rfl rfl ?_
  refine x_get (pc := 220) dX0_run_220 kf_RX0_24 hS.1 rfl ?_
  rw [show _ = (5 : Int32) from h0.2.1]
  refine x_iload_n (pc := 223) dX0_run_223 rfl rfl ?_
  refine x_iload (pc := 224) dX0_run_224 rfl ?_
  refine x_callS (pc := 226) (As := [.ref _, .int _, .int _, .int _, .int _]) dX0_run_226 km_X0_run ks_X0_run kl_RX0_47 rfl (by decide) ⟨Nat.le_refl _, Nat.le_refl _⟩ rfl (Nat.le_of_ble_eq_true rfl) (Nat.le_of_ble_eq_true rfl) (c_run_5_1_5 (dd := dd + 1) hS h0 (by omega) (by omega) (fun J1 h1 f1 => ⟨rfl, rfl, ?_⟩))
  have g1 := g0.tr f1
  refine x_iconst (pc := 229) (v := 2) dX0_run_229 (by decide) ?_
  refine x_imul (pc := 230) dX0_run_230 ?_
  refine x_ireturn (pc := 231) dX0_run_231 ⟨_, rfl, rfl⟩ ⟨Nat.le_refl _, Nat.le_refl _⟩ ?_
  exact K _ h1 g1

set_option maxHeartbeats 4000000 in
set_option maxRecDepth 100000 in
theorem c_run_5_2_5 {T : xT} {n : Nat} {sh : Nat → Nat × Nat} {I : xI} {R : xR} {L : xL} {P : xPost} {ac v b r : Nat} {f : Nat → Nat} (hS : sh ac = (0, 0) ∧ R ac 0 = some (ac + 1) ∧ xRow sh R (ac + 1) (ac + 2) 20) {x : Int32} {dd : Nat} (hA : ATC I ac 5 v b r f) (hr : r + 5 ≤ 20) (hd : dd + 5 ≤ 20) (K : ∀ J : xI, ATC J ac 5 v b (r + 5) (apL f r [60, 12, 20, 11, 10]) → atF ac I J → P (n, sh, 0, 0) J R L (some (.int (((((x - nI b) + nI b) - nI v) ^^^ 6) * 2)))) : XM T zX0_run 5 [.ref ac, .int 2, .int 5, .int x, .int (nI dd)] n sh I R L P := by
  refine x_iload (pc := 0) dX0_run_0 rfl ?_
  refine x_bipush (pc := 2) (v := 20) dX0_run_2 (by decide) ?_
  refine x_icmpn_le_t (pc := 4) (tgt := 9) (a := dd) (b := 20) dX0_run_4 (by decide) (by omega) (by decide) (by omega) ?_
  refine x_iload_n (pc := 9) dX0_run_9 rfl rfl ?_
  refine x_istore (pc := 10) (lv' := [(0, .ref ac), (1, .int 2), (2, .int 5), (3, .int x), (4, .int (nI dd)), (5, .int 5)]) dX0_run_10 (by decide) rfl ?_
  refine x_iconst (pc := 12) (v := 0) dX0_run_12 (by decide) ?_
  refine x_istore (pc := 13) (lv' := [(0, .ref ac), (1, .int 2), (2, .int 5), (3, .int x), (4, .int (nI dd)), (5, .int 5), (6, .int 0)]) dX0_run_13 (by decide) rfl ?_
  refine x_iload (pc := 15) dX0_run_15 rfl ?_
  refine x_bipush (pc := 17) (v := 7) dX0_run_17 (by decide) ?_
  refine x_icmp_ge_f (pc := 19) (tgt := 45) dX0_run_19 (by decide) (by decide) ?_
  refine x_iload (pc := 22) dX0_run_22 rfl ?_
  refine x_iload_n (pc := 24) dX0_run_24 rfl rfl ?_
  refine x_callS (pc := 25) (As := [.int _, .int _]) dX0_run_25 km_X0_bodyOf ks_X0_bodyOf kl_RX0_36 rfl (by decide) ⟨Nat.le_refl _, Nat.le_refl _⟩ rfl (Nat.le_of_ble_eq_true rfl) (Nat.le_of_ble_eq_true rfl) (c_bodyOf_5_2 (⟨rfl, rfl, ?_⟩))
  refine x_iconst (pc := 28) (v := -1) dX0_run_28 (by decide) ?_
  refine x_icmp_ne_t (pc := 29) (tgt := 45) dX0_run_29 (by decide) (by decide) ?_
  refine x_iload (pc := 45) dX0_run_45 rfl ?_
  refine x_iload_n (pc := 47) dX0_run_47 rfl rfl ?_
  refine x_callS (pc := 48) (As := [.int _, .int _]) dX0_run_48 km_X0_bodyOf ks_X0_bodyOf kl_RX0_36 rfl (by decide) ⟨Nat.le_refl _, Nat.le_refl _⟩ rfl (Nat.le_of_ble_eq_true rfl) (Nat.le_of_ble_eq_true rfl) (c_bodyOf_5_2 (⟨rfl, rfl, ?_⟩))
  refine x_istore (pc := 51) (lv' := [(0, .ref ac), (1, .int 2), (2, .int 5), (3, .int x), (4, .int (nI dd)), (5, .int 5), (6, .int 60)]) dX0_run_51 (by decide) rfl ?_
  refine x_iload (pc := 53) dX0_run_53 rfl ?_
  refine x_iconst (pc := 55) (v := -1) dX0_run_55 (by decide) ?_
  refine x_icmp_ne_t (pc := 56) (tgt := 61) dX0_run_56 (by decide) (by decide) ?_
  refine x_iload (pc := 61) dX0_run_61 rfl ?_
  refine x_callSN (pc := 63) (As := [.int _]) dX0_run_63 km_X9_kindAbove ks_X9_kindAbove kn_RX0_40 rfl (by decide) ⟨Nat.le_refl _, Nat.le_refl _⟩ rfl (Nat.le_of_ble_eq_true rfl) (Nat.le_of_ble_eq_true rfl) (c_kindAbove (k := 5) (by decide) (⟨rfl, rfl, ?_⟩))
  rw [show kAbI 5 = 1 from rfl]
  refine x_istore (pc := 66) (lv' := [(0, .ref ac), (1, .int 2), (2, .int 5), (3, .int x), (4, .int (nI dd)), (5, .int 5), (6, .int 60), (7, .int 1)]) dX0_run_66 (by decide) rfl ?_
  refine x_iload (pc := 68) dX0_run_68 rfl ?_
  refine x_iconst (pc := 70) (v := 1) dX0_run_70 (by decide) ?_
  refine x_iaddn (pc := 71) (a := dd) (b := 1) dX0_run_71 ?_
  refine x_istore (pc := 72) (lv' := [(0, .ref ac), (1, .int 2), (2, .int 5), (3, .int x), (4, .int (nI dd)), (5, .int 5), (6, .int 60), (7, .int 1), (8, .int (nI (dd + 1)))]) dX0_run_72 (by decide) rfl ?_
  refine x_aload_n (pc := 74) dX0_run_74 rfl rfl ?_
  refine x_dup (pc := 75) dX0_run_75 rfl ?_
  refine x_get (pc := 76) dX0_run_76 kf_RX0_20 hS.1 rfl ?_
  rw [show I ac 1 = nI r from hA.1]
  refine x_iconst (pc := 79) (v := 1) dX0_run_79 (by decide) ?_
  refine x_iaddn (pc := 80) (a := r) (b := 1) dX0_run_80 ?_
  refine x_put (pc := 81) dX0_run_81 kf_RX0_20 hS.1 rfl (Or.inl kb_0_1) ?_
  refine x_aload_n (pc := 84) dX0_run_84 rfl rfl ?_
  refine x_getr (pc := 85) dX0_run_85 kf_RX0_16 hS.1 rfl hS.2.1 ?_
  refine x_iload (pc := 88) dX0_run_88 rfl ?_
  refine x_callV (pc := 90) (As := [.int _]) dX0_run_90 km_X5_add kv_X5_add kl_RX0_44 hS.2.2.1 rfl rfl (by decide) ⟨Nat.le_refl _, Nat.le_refl _⟩ rfl (Nat.le_of_ble_eq_true rfl) (Nat.le_of_ble_eq_true rfl) (c_add (x := 60) (m := r) hS.2.2 ((congrFun (up2_row (by omega)) 1).trans hA.2.2.2.2.1) (by omega) (⟨rfl, rfl, ?_⟩))
  have h0 := hA.step (x := 60) (a := 60) rfl
  have g0 := @atF.st I ac 1 r 1 (nI (r + 1)) 60 (nI (r + 1))
  refine x_iload (pc := 93) dX0_run_93 rfl ?_
  refine x_lsw (pc := 95) (dt := 362) [(10, 192), (11, 199), (12, 217), (20, 232), (30, 246), (40, 259), (50, 283), (51, 295), (60, 308), (70, 324), (71, 346)] dX0_run_95 (by decide +kernel) (by decide +kernel) (by decide) ?_
  refine xsw_c (fun h => absurd h (by decide)) (fun _ => ?_)
  refine xsw_c (fun h => absurd h (by decide)) (fun _ => ?_)
  refine xsw_c (fun h => absurd h (by decide)) (fun _ => ?_)
  refine xsw_c (fun h => absurd h (by decide)) (fun _ => ?_)
  refine xsw_c (fun h => absurd h (by decide)) (fun _ => ?_)
  refine xsw_c (fun h => absurd h (by decide)) (fun _ => ?_)
  refine xsw_c (fun h => absurd h (by decide)) (fun _ => ?_)
  refine xsw_c (fun h => absurd h (by decide)) (fun _ => ?_)
  refine xsw_c (fun _ => ?_) (fun h => absurd rfl h)
  refine x_aload_n (pc := 308) dX0_run_308 rfl rfl ?_
  refine x_iconst (pc := 309) (v := 2) dX0_run_309 (by decide) ?_
  refine x_iload (pc := 310) dX0_run_310 rfl ?_
  refine x_iload_n (pc := 312) dX0_run_312 rfl rfl ?_
  refine x_aload_n (pc := 313) dX0_run_313 rfl rfl ?_
  refine x_get (pc := 314) dX0_run_314 kf_RX0_30 hS.1 rfl ?_
  rw [show _ = (nI b : Int32) from h0.2.2.2.1]
  refine x_isub (pc := 317) dX0_run_317 ?_
  refine x_iload (pc := 318) dX0_run_318 rfl ?_
  refine x_callS (pc := 320) (As := [.ref _, .int _, .int _, .int _, .int _]) dX0_run_320 km_X0_run ks_X0_run kl_RX0_47 rfl (by decide) ⟨Nat.le_refl _, Nat.le_refl _⟩ rfl (Nat.le_of_ble_eq_true rfl) (Nat.le_of_ble_eq_true rfl) (c_run_5_2_1 (dd := dd + 1) hS h0 (by omega) (by omega) (fun J1 h1 f1 => ⟨rfl, rfl, ?_⟩))
  have g1 := g0.tr f1
  refine x_ireturn (pc := 323) dX0_run_323 ⟨_, rfl, rfl⟩ ⟨Nat.le_refl _, Nat.le_refl _⟩ ?_
  exact K _ h1 g1

set_option maxHeartbeats 4000000 in
set_option maxRecDepth 100000 in
theorem c_run_6_0_0 {T : xT} {n : Nat} {sh : Nat → Nat × Nat} {I : xI} {R : xR} {L : xL} {P : xPost} {ac v b r : Nat} {f : Nat → Nat} (hS : sh ac = (0, 0) ∧ R ac 0 = some (ac + 1) ∧ xRow sh R (ac + 1) (ac + 2) 20) {x : Int32} {dd : Nat} (hA : ATC I ac 6 v b r f) (hr : r + 1 ≤ 20) (hd : dd + 1 ≤ 20) (K : ∀ J : xI, ATC J ac 6 v b (r + 1) (apL f r [10]) → atF ac I J → P (n, sh, 0, 0) J R L (some (.int (x + nI b)))) : XM T zX0_run 1 [.ref ac, .int 0, .int 0, .int x, .int (nI dd)] n sh I R L P := by
  refine x_iload (pc := 0) dX0_run_0 rfl ?_
  refine x_bipush (pc := 2) (v := 20) dX0_run_2 (by decide) ?_
  refine x_icmpn_le_t (pc := 4) (tgt := 9) (a := dd) (b := 20) dX0_run_4 (by decide) (by omega) (by decide) (by omega) ?_
  refine x_iload_n (pc := 9) dX0_run_9 rfl rfl ?_
  refine x_istore (pc := 10) (lv' := [(0, .ref ac), (1, .int 0), (2, .int 0), (3, .int x), (4, .int (nI dd)), (5, .int 0)]) dX0_run_10 (by decide) rfl ?_
  refine x_iconst (pc := 12) (v := 0) dX0_run_12 (by decide) ?_
  refine x_istore (pc := 13) (lv' := [(0, .ref ac), (1, .int 0), (2, .int 0), (3, .int x), (4, .int (nI dd)), (5, .int 0), (6, .int 0)]) dX0_run_13 (by decide) rfl ?_
  refine x_iload (pc := 15) dX0_run_15 rfl ?_
  refine x_bipush (pc := 17) (v := 7) dX0_run_17 (by decide) ?_
  refine x_icmp_ge_f (pc := 19) (tgt := 45) dX0_run_19 (by decide) (by decide) ?_
  refine x_iload (pc := 22) dX0_run_22 rfl ?_
  refine x_iload_n (pc := 24) dX0_run_24 rfl rfl ?_
  refine x_callS (pc := 25) (As := [.int _, .int _]) dX0_run_25 km_X0_bodyOf ks_X0_bodyOf kl_RX0_36 rfl (by decide) ⟨Nat.le_refl _, Nat.le_refl _⟩ rfl (Nat.le_of_ble_eq_true rfl) (Nat.le_of_ble_eq_true rfl) (c_bodyOf_0_0 (⟨rfl, rfl, ?_⟩))
  refine x_iconst (pc := 28) (v := -1) dX0_run_28 (by decide) ?_
  refine x_icmp_ne_t (pc := 29) (tgt := 45) dX0_run_29 (by decide) (by decide) ?_
  refine x_iload (pc := 45) dX0_run_45 rfl ?_
  refine x_iload_n (pc := 47) dX0_run_47 rfl rfl ?_
  refine x_callS (pc := 48) (As := [.int _, .int _]) dX0_run_48 km_X0_bodyOf ks_X0_bodyOf kl_RX0_36 rfl (by decide) ⟨Nat.le_refl _, Nat.le_refl _⟩ rfl (Nat.le_of_ble_eq_true rfl) (Nat.le_of_ble_eq_true rfl) (c_bodyOf_0_0 (⟨rfl, rfl, ?_⟩))
  refine x_istore (pc := 51) (lv' := [(0, .ref ac), (1, .int 0), (2, .int 0), (3, .int x), (4, .int (nI dd)), (5, .int 0), (6, .int 10)]) dX0_run_51 (by decide) rfl ?_
  refine x_iload (pc := 53) dX0_run_53 rfl ?_
  refine x_iconst (pc := 55) (v := -1) dX0_run_55 (by decide) ?_
  refine x_icmp_ne_t (pc := 56) (tgt := 61) dX0_run_56 (by decide) (by decide) ?_
  refine x_iload (pc := 61) dX0_run_61 rfl ?_
  refine x_callSN (pc := 63) (As := [.int _]) dX0_run_63 km_X9_kindAbove ks_X9_kindAbove kn_RX0_40 rfl (by decide) ⟨Nat.le_refl _, Nat.le_refl _⟩ rfl (Nat.le_of_ble_eq_true rfl) (Nat.le_of_ble_eq_true rfl) (c_kindAbove (k := 0) (by decide) (⟨rfl, rfl, ?_⟩))
  rw [show kAbI 0 = (-1) from rfl]
  refine x_istore (pc := 66) (lv' := [(0, .ref ac), (1, .int 0), (2, .int 0), (3, .int x), (4, .int (nI dd)), (5, .int 0), (6, .int 10), (7, .int (-1))]) dX0_run_66 (by decide) rfl ?_
  refine x_iload (pc := 68) dX0_run_68 rfl ?_
  refine x_iconst (pc := 70) (v := 1) dX0_run_70 (by decide) ?_
  refine x_iaddn (pc := 71) (a := dd) (b := 1) dX0_run_71 ?_
  refine x_istore (pc := 72) (lv' := [(0, .ref ac), (1, .int 0), (2, .int 0), (3, .int x), (4, .int (nI dd)), (5, .int 0), (6, .int 10), (7, .int (-1)), (8, .int (nI (dd + 1)))]) dX0_run_72 (by decide) rfl ?_
  refine x_aload_n (pc := 74) dX0_run_74 rfl rfl ?_
  refine x_dup (pc := 75) dX0_run_75 rfl ?_
  refine x_get (pc := 76) dX0_run_76 kf_RX0_20 hS.1 rfl ?_
  rw [show I ac 1 = nI r from hA.1]
  refine x_iconst (pc := 79) (v := 1) dX0_run_79 (by decide) ?_
  refine x_iaddn (pc := 80) (a := r) (b := 1) dX0_run_80 ?_
  refine x_put (pc := 81) dX0_run_81 kf_RX0_20 hS.1 rfl (Or.inl kb_0_1) ?_
  refine x_aload_n (pc := 84) dX0_run_84 rfl rfl ?_
  refine x_getr (pc := 85) dX0_run_85 kf_RX0_16 hS.1 rfl hS.2.1 ?_
  refine x_iload (pc := 88) dX0_run_88 rfl ?_
  refine x_callV (pc := 90) (As := [.int _]) dX0_run_90 km_X5_add kv_X5_add kl_RX0_44 hS.2.2.1 rfl rfl (by decide) ⟨Nat.le_refl _, Nat.le_refl _⟩ rfl (Nat.le_of_ble_eq_true rfl) (Nat.le_of_ble_eq_true rfl) (c_add (x := 10) (m := r) hS.2.2 ((congrFun (up2_row (by omega)) 1).trans hA.2.2.2.2.1) (by omega) (⟨rfl, rfl, ?_⟩))
  have h0 := hA.step (x := 10) (a := 10) rfl
  have g0 := @atF.st I ac 1 r 1 (nI (r + 1)) 10 (nI (r + 1))
  refine x_iload (pc := 93) dX0_run_93 rfl ?_
  refine x_lsw (pc := 95) (dt := 362) [(10, 192), (11, 199), (12, 217), (20, 232), (30, 246), (40, 259), (50, 283), (51, 295), (60, 308), (70, 324), (71, 346)] dX0_run_95 (by decide +kernel) (by decide +kernel) (by decide) ?_
  refine xsw_c (fun _ => ?_) (fun h => absurd rfl h)
  refine x_iload_n (pc := 192) dX0_run_192 rfl rfl ?_
  refine x_aload_n (pc := 193) dX0_run_193 rfl rfl ?_
  refine x_get (pc := 194) dX0_run_194 kf_RX0_30 hS.1 rfl ?_
  rw [show _ = (nI b : Int32) from h0.2.2.2.1]
  refine x_iadd (pc := 197) dX0_run_197 ?_
  refine x_ireturn (pc := 198) dX0_run_198 ⟨_, rfl, rfl⟩ ⟨Nat.le_refl _, Nat.le_refl _⟩ ?_
  exact K _ h0 g0

set_option maxHeartbeats 4000000 in
set_option maxRecDepth 100000 in
theorem c_run_6_0_2 {T : xT} {n : Nat} {sh : Nat → Nat × Nat} {I : xI} {R : xR} {L : xL} {P : xPost} {ac v b r : Nat} {f : Nat → Nat} (hS : sh ac = (0, 0) ∧ R ac 0 = some (ac + 1) ∧ xRow sh R (ac + 1) (ac + 2) 20) {x : Int32} {dd : Nat} (hA : ATC I ac 6 v b r f) (hr : r + 2 ≤ 20) (hd : dd + 2 ≤ 20) (K : ∀ J : xI, ATC J ac 6 v b (r + 2) (apL f r [30, 10]) → atF ac I J → P (n, sh, 0, 0) J R L (some (.int ((x * 3) + nI b)))) : XM T zX0_run 2 [.ref ac, .int 0, .int 2, .int x, .int (nI dd)] n sh I R L P := by
  refine x_iload (pc := 0) dX0_run_0 rfl ?_
  refine x_bipush (pc := 2) (v := 20) dX0_run_2 (by decide) ?_
  refine x_icmpn_le_t (pc := 4) (tgt := 9) (a := dd) (b := 20) dX0_run_4 (by decide) (by omega) (by decide) (by omega) ?_
  refine x_iload_n (pc := 9) dX0_run_9 rfl rfl ?_
  refine x_istore (pc := 10) (lv' := [(0, .ref ac), (1, .int 0), (2, .int 2), (3, .int x), (4, .int (nI dd)), (5, .int 2)]) dX0_run_10 (by decide) rfl ?_
  refine x_iconst (pc := 12) (v := 0) dX0_run_12 (by decide) ?_
  refine x_istore (pc := 13) (lv' := [(0, .ref ac), (1, .int 0), (2, .int 2), (3, .int x), (4, .int (nI dd)), (5, .int 2), (6, .int 0)]) dX0_run_13 (by decide) rfl ?_
  refine x_iload (pc := 15) dX0_run_15 rfl ?_
  refine x_bipush (pc := 17) (v := 7) dX0_run_17 (by decide) ?_
  refine x_icmp_ge_f (pc := 19) (tgt := 45) dX0_run_19 (by decide) (by decide) ?_
  refine x_iload (pc := 22) dX0_run_22 rfl ?_
  refine x_iload_n (pc := 24) dX0_run_24 rfl rfl ?_
  refine x_callS (pc := 25) (As := [.int _, .int _]) dX0_run_25 km_X0_bodyOf ks_X0_bodyOf kl_RX0_36 rfl (by decide) ⟨Nat.le_refl _, Nat.le_refl _⟩ rfl (Nat.le_of_ble_eq_true rfl) (Nat.le_of_ble_eq_true rfl) (c_bodyOf_2_0 (⟨rfl, rfl, ?_⟩))
  refine x_iconst (pc := 28) (v := -1) dX0_run_28 (by decide) ?_
  refine x_icmp_ne_t (pc := 29) (tgt := 45) dX0_run_29 (by decide) (by decide) ?_
  refine x_iload (pc := 45) dX0_run_45 rfl ?_
  refine x_iload_n (pc := 47) dX0_run_47 rfl rfl ?_
  refine x_callS (pc := 48) (As := [.int _, .int _]) dX0_run_48 km_X0_bodyOf ks_X0_bodyOf kl_RX0_36 rfl (by decide) ⟨Nat.le_refl _, Nat.le_refl _⟩ rfl (Nat.le_of_ble_eq_true rfl) (Nat.le_of_ble_eq_true rfl) (c_bodyOf_2_0 (⟨rfl, rfl, ?_⟩))
  refine x_istore (pc := 51) (lv' := [(0, .ref ac), (1, .int 0), (2, .int 2), (3, .int x), (4, .int (nI dd)), (5, .int 2), (6, .int 30)]) dX0_run_51 (by decide) rfl ?_
  refine x_iload (pc := 53) dX0_run_53 rfl ?_
  refine x_iconst (pc := 55) (v := -1) dX0_run_55 (by decide) ?_
  refine x_icmp_ne_t (pc := 56) (tgt := 61) dX0_run_56 (by decide) (by decide) ?_
  refine x_iload (pc := 61) dX0_run_61 rfl ?_
  refine x_callSN (pc := 63) (As := [.int _]) dX0_run_63 km_X9_kindAbove ks_X9_kindAbove kn_RX0_40 rfl (by decide) ⟨Nat.le_refl _, Nat.le_refl _⟩ rfl (Nat.le_of_ble_eq_true rfl) (Nat.le_of_ble_eq_true rfl) (c_kindAbove (k := 2) (by decide) (⟨rfl, rfl, ?_⟩))
  rw [show kAbI 2 = 0 from rfl]
  refine x_istore (pc := 66) (lv' := [(0, .ref ac), (1, .int 0), (2, .int 2), (3, .int x), (4, .int (nI dd)), (5, .int 2), (6, .int 30), (7, .int 0)]) dX0_run_66 (by decide) rfl ?_
  refine x_iload (pc := 68) dX0_run_68 rfl ?_
  refine x_iconst (pc := 70) (v := 1) dX0_run_70 (by decide) ?_
  refine x_iaddn (pc := 71) (a := dd) (b := 1) dX0_run_71 ?_
  refine x_istore (pc := 72) (lv' := [(0, .ref ac), (1, .int 0), (2, .int 2), (3, .int x), (4, .int (nI dd)), (5, .int 2), (6, .int 30), (7, .int 0), (8, .int (nI (dd + 1)))]) dX0_run_72 (by decide) rfl ?_
  refine x_aload_n (pc := 74) dX0_run_74 rfl rfl ?_
  refine x_dup (pc := 75) dX0_run_75 rfl ?_
  refine x_get (pc := 76) dX0_run_76 kf_RX0_20 hS.1 rfl ?_
  rw [show I ac 1 = nI r from hA.1]
  refine x_iconst (pc := 79) (v := 1) dX0_run_79 (by decide) ?_
  refine x_iaddn (pc := 80) (a := r) (b := 1) dX0_run_80 ?_
  refine x_put (pc := 81) dX0_run_81 kf_RX0_20 hS.1 rfl (Or.inl kb_0_1) ?_
  refine x_aload_n (pc := 84) dX0_run_84 rfl rfl ?_
  refine x_getr (pc := 85) dX0_run_85 kf_RX0_16 hS.1 rfl hS.2.1 ?_
  refine x_iload (pc := 88) dX0_run_88 rfl ?_
  refine x_callV (pc := 90) (As := [.int _]) dX0_run_90 km_X5_add kv_X5_add kl_RX0_44 hS.2.2.1 rfl rfl (by decide) ⟨Nat.le_refl _, Nat.le_refl _⟩ rfl (Nat.le_of_ble_eq_true rfl) (Nat.le_of_ble_eq_true rfl) (c_add (x := 30) (m := r) hS.2.2 ((congrFun (up2_row (by omega)) 1).trans hA.2.2.2.2.1) (by omega) (⟨rfl, rfl, ?_⟩))
  have h0 := hA.step (x := 30) (a := 30) rfl
  have g0 := @atF.st I ac 1 r 1 (nI (r + 1)) 30 (nI (r + 1))
  refine x_iload (pc := 93) dX0_run_93 rfl ?_
  refine x_lsw (pc := 95) (dt := 362) [(10, 192), (11, 199), (12, 217), (20, 232), (30, 246), (40, 259), (50, 283), (51, 295), (60, 308), (70, 324), (71, 346)] dX0_run_95 (by decide +kernel) (by decide +kernel) (by decide) ?_
  refine xsw_c (fun h => absurd h (by decide)) (fun _ => ?_)
  refine xsw_c (fun h => absurd h (by decide)) (fun _ => ?_)
  refine xsw_c (fun h => absurd h (by decide)) (fun _ => ?_)
  refine xsw_c (fun h => absurd h (by decide)) (fun _ => ?_)
  refine xsw_c (fun _ => ?_) (fun h => absurd rfl h)
  refine x_aload_n (pc := 246) dX0_run_246 rfl rfl ?_
  refine x_iconst (pc := 247) (v := 0) dX0_run_247 (by decide) ?_
  refine x_iload (pc := 248) dX0_run_248 rfl ?_
  refine x_iload_n (pc := 250) dX0_run_250 rfl rfl ?_
  refine x_iconst (pc := 251) (v := 3) dX0_run_251 (by decide) ?_
  refine x_imul (pc := 252) dX0_run_252 ?_
  refine x_iload (pc := 253) dX0_run_253 rfl ?_
  refine x_callS (pc := 255) (As := [.ref _, .int _, .int _, .int _, .int _]) dX0_run_255 km_X0_run ks_X0_run kl_RX0_47 rfl (by decide) ⟨Nat.le_refl _, Nat.le_refl _⟩ rfl (Nat.le_of_ble_eq_true rfl) (Nat.le_of_ble_eq_true rfl) (c_run_6_0_0 (dd := dd + 1) hS h0 (by omega) (by omega) (fun J1 h1 f1 => ⟨rfl, rfl, ?_⟩))
  have g1 := g0.tr f1
  refine x_ireturn (pc := 258) dX0_run_258 ⟨_, rfl, rfl⟩ ⟨Nat.le_refl _, Nat.le_refl _⟩ ?_
  exact K _ h1 g1

set_option maxHeartbeats 4000000 in
set_option maxRecDepth 100000 in
theorem c_run_6_0_6 {T : xT} {n : Nat} {sh : Nat → Nat × Nat} {I : xI} {R : xR} {L : xL} {P : xPost} {ac v b r : Nat} {f : Nat → Nat} (hS : sh ac = (0, 0) ∧ R ac 0 = some (ac + 1) ∧ xRow sh R (ac + 1) (ac + 2) 20) {x : Int32} {dd : Nat} (hA : ATC I ac 6 v b r f) (hr : r + 3 ≤ 20) (hd : dd + 3 ≤ 20) (K : ∀ J : xI, ATC J ac 6 v b (r + 3) (apL f r [71, 30, 10]) → atF ac I J → P (n, sh, 0, 0) J R L (some (.int (((x * 3) + nI b) ^^^ nI v)))) : XM T zX0_run 3 [.ref ac, .int 0, .int 6, .int x, .int (nI dd)] n sh I R L P := by
  refine x_iload (pc := 0) dX0_run_0 rfl ?_
  refine x_bipush (pc := 2) (v := 20) dX0_run_2 (by decide) ?_
  refine x_icmpn_le_t (pc := 4) (tgt := 9) (a := dd) (b := 20) dX0_run_4 (by decide) (by omega) (by decide) (by omega) ?_
  refine x_iload_n (pc := 9) dX0_run_9 rfl rfl ?_
  refine x_istore (pc := 10) (lv' := [(0, .ref ac), (1, .int 0), (2, .int 6), (3, .int x), (4, .int (nI dd)), (5, .int 6)]) dX0_run_10 (by decide) rfl ?_
  refine x_iconst (pc := 12) (v := 0) dX0_run_12 (by decide) ?_
  refine x_istore (pc := 13) (lv' := [(0, .ref ac), (1, .int 0), (2, .int 6), (3, .int x), (4, .int (nI dd)), (5, .int 6), (6, .int 0)]) dX0_run_13 (by decide) rfl ?_
  refine x_iload (pc := 15) dX0_run_15 rfl ?_
  refine x_bipush (pc := 17) (v := 7) dX0_run_17 (by decide) ?_
  refine x_icmp_ge_f (pc := 19) (tgt := 45) dX0_run_19 (by decide) (by decide) ?_
  refine x_iload (pc := 22) dX0_run_22 rfl ?_
  refine x_iload_n (pc := 24) dX0_run_24 rfl rfl ?_
  refine x_callS (pc := 25) (As := [.int _, .int _]) dX0_run_25 km_X0_bodyOf ks_X0_bodyOf kl_RX0_36 rfl (by decide) ⟨Nat.le_refl _, Nat.le_refl _⟩ rfl (Nat.le_of_ble_eq_true rfl) (Nat.le_of_ble_eq_true rfl) (c_bodyOf_6_0 (⟨rfl, rfl, ?_⟩))
  refine x_iconst (pc := 28) (v := -1) dX0_run_28 (by decide) ?_
  refine x_icmp_ne_t (pc := 29) (tgt := 45) dX0_run_29 (by decide) (by decide) ?_
  refine x_iload (pc := 45) dX0_run_45 rfl ?_
  refine x_iload_n (pc := 47) dX0_run_47 rfl rfl ?_
  refine x_callS (pc := 48) (As := [.int _, .int _]) dX0_run_48 km_X0_bodyOf ks_X0_bodyOf kl_RX0_36 rfl (by decide) ⟨Nat.le_refl _, Nat.le_refl _⟩ rfl (Nat.le_of_ble_eq_true rfl) (Nat.le_of_ble_eq_true rfl) (c_bodyOf_6_0 (⟨rfl, rfl, ?_⟩))
  refine x_istore (pc := 51) (lv' := [(0, .ref ac), (1, .int 0), (2, .int 6), (3, .int x), (4, .int (nI dd)), (5, .int 6), (6, .int 71)]) dX0_run_51 (by decide) rfl ?_
  refine x_iload (pc := 53) dX0_run_53 rfl ?_
  refine x_iconst (pc := 55) (v := -1) dX0_run_55 (by decide) ?_
  refine x_icmp_ne_t (pc := 56) (tgt := 61) dX0_run_56 (by decide) (by decide) ?_
  refine x_iload (pc := 61) dX0_run_61 rfl ?_
  refine x_callSN (pc := 63) (As := [.int _]) dX0_run_63 km_X9_kindAbove ks_X9_kindAbove kn_RX0_40 rfl (by decide) ⟨Nat.le_refl _, Nat.le_refl _⟩ rfl (Nat.le_of_ble_eq_true rfl) (Nat.le_of_ble_eq_true rfl) (c_kindAbove (k := 6) (by decide) (⟨rfl, rfl, ?_⟩))
  rw [show kAbI 6 = 2 from rfl]
  refine x_istore (pc := 66) (lv' := [(0, .ref ac), (1, .int 0), (2, .int 6), (3, .int x), (4, .int (nI dd)), (5, .int 6), (6, .int 71), (7, .int 2)]) dX0_run_66 (by decide) rfl ?_
  refine x_iload (pc := 68) dX0_run_68 rfl ?_
  refine x_iconst (pc := 70) (v := 1) dX0_run_70 (by decide) ?_
  refine x_iaddn (pc := 71) (a := dd) (b := 1) dX0_run_71 ?_
  refine x_istore (pc := 72) (lv' := [(0, .ref ac), (1, .int 0), (2, .int 6), (3, .int x), (4, .int (nI dd)), (5, .int 6), (6, .int 71), (7, .int 2), (8, .int (nI (dd + 1)))]) dX0_run_72 (by decide) rfl ?_
  refine x_aload_n (pc := 74) dX0_run_74 rfl rfl ?_
  refine x_dup (pc := 75) dX0_run_75 rfl ?_
  refine x_get (pc := 76) dX0_run_76 kf_RX0_20 hS.1 rfl ?_
  rw [show I ac 1 = nI r from hA.1]
  refine x_iconst (pc := 79) (v := 1) dX0_run_79 (by decide) ?_
  refine x_iaddn (pc := 80) (a := r) (b := 1) dX0_run_80 ?_
  refine x_put (pc := 81) dX0_run_81 kf_RX0_20 hS.1 rfl (Or.inl kb_0_1) ?_
  refine x_aload_n (pc := 84) dX0_run_84 rfl rfl ?_
  refine x_getr (pc := 85) dX0_run_85 kf_RX0_16 hS.1 rfl hS.2.1 ?_
  refine x_iload (pc := 88) dX0_run_88 rfl ?_
  refine x_callV (pc := 90) (As := [.int _]) dX0_run_90 km_X5_add kv_X5_add kl_RX0_44 hS.2.2.1 rfl rfl (by decide) ⟨Nat.le_refl _, Nat.le_refl _⟩ rfl (Nat.le_of_ble_eq_true rfl) (Nat.le_of_ble_eq_true rfl) (c_add (x := 71) (m := r) hS.2.2 ((congrFun (up2_row (by omega)) 1).trans hA.2.2.2.2.1) (by omega) (⟨rfl, rfl, ?_⟩))
  have h0 := hA.step (x := 71) (a := 71) rfl
  have g0 := @atF.st I ac 1 r 1 (nI (r + 1)) 71 (nI (r + 1))
  refine x_iload (pc := 93) dX0_run_93 rfl ?_
  refine x_lsw (pc := 95) (dt := 362) [(10, 192), (11, 199), (12, 217), (20, 232), (30, 246), (40, 259), (50, 283), (51, 295), (60, 308), (70, 324), (71, 346)] dX0_run_95 (by decide +kernel) (by decide +kernel) (by decide) ?_
  refine xsw_c (fun h => absurd h (by decide)) (fun _ => ?_)
  refine xsw_c (fun h => absurd h (by decide)) (fun _ => ?_)
  refine xsw_c (fun h => absurd h (by decide)) (fun _ => ?_)
  refine xsw_c (fun h => absurd h (by decide)) (fun _ => ?_)
  refine xsw_c (fun h => absurd h (by decide)) (fun _ => ?_)
  refine xsw_c (fun h => absurd h (by decide)) (fun _ => ?_)
  refine xsw_c (fun h => absurd h (by decide)) (fun _ => ?_)
  refine xsw_c (fun h => absurd h (by decide)) (fun _ => ?_)
  refine xsw_c (fun h => absurd h (by decide)) (fun _ => ?_)
  refine xsw_c (fun h => absurd h (by decide)) (fun _ => ?_)
  refine xsw_c (fun _ => ?_) (fun h => absurd rfl h)
  refine x_aload_n (pc := 346) dX0_run_346 rfl rfl ?_
  refine x_iconst (pc := 347) (v := 0) dX0_run_347 (by decide) ?_
  refine x_iload (pc := 348) dX0_run_348 rfl ?_
  refine x_iload_n (pc := 350) dX0_run_350 rfl rfl ?_
  refine x_iload (pc := 351) dX0_run_351 rfl ?_
  refine x_callS (pc := 353) (As := [.ref _, .int _, .int _, .int _, .int _]) dX0_run_353 km_X0_run ks_X0_run kl_RX0_47 rfl (by decide) ⟨Nat.le_refl _, Nat.le_refl _⟩ rfl (Nat.le_of_ble_eq_true rfl) (Nat.le_of_ble_eq_true rfl) (c_run_6_0_2 (dd := dd + 1) hS h0 (by omega) (by omega) (fun J1 h1 f1 => ⟨rfl, rfl, ?_⟩))
  have g1 := g0.tr f1
  refine x_aload_n (pc := 356) dX0_run_356 rfl rfl ?_
  refine x_get (pc := 357) dX0_run_357 kf_RX0_27 hS.1 rfl ?_
  rw [show _ = (nI v : Int32) from h1.2.2.1]
  refine x_ixor (pc := 360) dX0_run_360 ?_
  refine x_ireturn (pc := 361) dX0_run_361 ⟨_, rfl, rfl⟩ ⟨Nat.le_refl _, Nat.le_refl _⟩ ?_
  exact K _ h1 g1

set_option maxHeartbeats 4000000 in
set_option maxRecDepth 100000 in
theorem c_run_6_1_2 {T : xT} {n : Nat} {sh : Nat → Nat × Nat} {I : xI} {R : xR} {L : xL} {P : xPost} {ac v b r : Nat} {f : Nat → Nat} (hS : sh ac = (0, 0) ∧ R ac 0 = some (ac + 1) ∧ xRow sh R (ac + 1) (ac + 2) 20) {x : Int32} {dd : Nat} (hA : ATC I ac 6 v b r f) (hr : r + 4 ≤ 20) (hd : dd + 4 ≤ 20) (K : ∀ J : xI, ATC J ac 6 v b (r + 4) (apL f r [11, 71, 30, 10]) → atF ac I J → P (n, sh, 0, 0) J R L (some (.int ((((x * 3) + nI b) ^^^ nI v) - nI v)))) : XM T zX0_run 4 [.ref ac, .int 1, .int 2, .int x, .int (nI dd)] n sh I R L P := by
  refine x_iload (pc := 0) dX0_run_0 rfl ?_
  refine x_bipush (pc := 2) (v := 20) dX0_run_2 (by decide) ?_
  refine x_icmpn_le_t (pc := 4) (tgt := 9) (a := dd) (b := 20) dX0_run_4 (by decide) (by omega) (by decide) (by omega) ?_
  refine x_iload_n (pc := 9) dX0_run_9 rfl rfl ?_
  refine x_istore (pc := 10) (lv' := [(0, .ref ac), (1, .int 1), (2, .int 2), (3, .int x), (4, .int (nI dd)), (5, .int 2)]) dX0_run_10 (by decide) rfl ?_
  refine x_iconst (pc := 12) (v := 0) dX0_run_12 (by decide) ?_
  refine x_istore (pc := 13) (lv' := [(0, .ref ac), (1, .int 1), (2, .int 2), (3, .int x), (4, .int (nI dd)), (5, .int 2), (6, .int 0)]) dX0_run_13 (by decide) rfl ?_
  refine x_iload (pc := 15) dX0_run_15 rfl ?_
  refine x_bipush (pc := 17) (v := 7) dX0_run_17 (by decide) ?_
  refine x_icmp_ge_f (pc := 19) (tgt := 45) dX0_run_19 (by decide) (by decide) ?_
  refine x_iload (pc := 22) dX0_run_22 rfl ?_
  refine x_iload_n (pc := 24) dX0_run_24 rfl rfl ?_
  refine x_callS (pc := 25) (As := [.int _, .int _]) dX0_run_25 km_X0_bodyOf ks_X0_bodyOf kl_RX0_36 rfl (by decide) ⟨Nat.le_refl _, Nat.le_refl _⟩ rfl (Nat.le_of_ble_eq_true rfl) (Nat.le_of_ble_eq_true rfl) (c_bodyOf_2_1 (⟨rfl, rfl, ?_⟩))
  refine x_iconst (pc := 28) (v := -1) dX0_run_28 (by decide) ?_
  refine x_icmp_ne_f (pc := 29) (tgt := 45) dX0_run_29 (by decide) (by decide) ?_
  refine x_iload (pc := 32) dX0_run_32 rfl ?_
  refine x_callSN (pc := 34) (As := [.int _]) dX0_run_34 km_X9_kindAbove ks_X9_kindAbove kn_RX0_40 rfl (by decide) ⟨Nat.le_refl _, Nat.le_refl _⟩ rfl (Nat.le_of_ble_eq_true rfl) (Nat.le_of_ble_eq_true rfl) (c_kindAbove (k := 2) (by decide) (⟨rfl, rfl, ?_⟩))
  rw [show kAbI 2 = 0 from rfl]
  refine x_istore (pc := 37) (lv' := [(0, .ref ac), (1, .int 1), (2, .int 2), (3, .int x), (4, .int (nI dd)), (5, .int 0), (6, .int 0)]) dX0_run_37 (by decide) rfl ?_
  refine x_iinc (pc := 39) (v := 1) (lv' := [(0, .ref ac), (1, .int 1), (2, .int 2), (3, .int x), (4, .int (nI dd)), (5, .int 0), (6, .int 1)]) dX0_run_39 rfl (by decide) (by decide) rfl ?_
  refine x_goto (pc := 42) (tgt := 15) dX0_run_42 (by decide) ?_
  refine x_iload (pc := 15) dX0_run_15 rfl ?_
  refine x_bipush (pc := 17) (v := 7) dX0_run_17 (by decide) ?_
  refine x_icmp_ge_f (pc := 19) (tgt := 45) dX0_run_19 (by decide) (by decide) ?_
  refine x_iload (pc := 22) dX0_run_22 rfl ?_
  refine x_iload_n (pc := 24) dX0_run_24 rfl rfl ?_
  refine x_callS (pc := 25) (As := [.int _, .int _]) dX0_run_25 km_X0_bodyOf ks_X0_bodyOf kl_RX0_36 rfl (by decide) ⟨Nat.le_refl _, Nat.le_refl _⟩ rfl (Nat.le_of_ble_eq_true rfl) (Nat.le_of_ble_eq_true rfl) (c_bodyOf_0_1 (⟨rfl, rfl, ?_⟩))
  refine x_iconst (pc := 28) (v := -1) dX0_run_28 (by decide) ?_
  refine x_icmp_ne_t (pc := 29) (tgt := 45) dX0_run_29 (by decide) (by decide) ?_
  refine x_iload (pc := 45) dX0_run_45 rfl ?_
  refine x_iload_n (pc := 47) dX0_run_47 rfl rfl ?_
  refine x_callS (pc := 48) (As := [.int _, .int _]) dX0_run_48 km_X0_bodyOf ks_X0_bodyOf kl_RX0_36 rfl (by decide) ⟨Nat.le_refl _, Nat.le_refl _⟩ rfl (Nat.le_of_ble_eq_true rfl) (Nat.le_of_ble_eq_true rfl) (c_bodyOf_0_1 (⟨rfl, rfl, ?_⟩))
  refine x_istore (pc := 51) (lv' := [(0, .ref ac), (1, .int 1), (2, .int 2), (3, .int x), (4, .int (nI dd)), (5, .int 0), (6, .int 11)]) dX0_run_51 (by decide) rfl ?_
  refine x_iload (pc := 53) dX0_run_53 rfl ?_
  refine x_iconst (pc := 55) (v := -1) dX0_run_55 (by decide) ?_
  refine x_icmp_ne_t (pc := 56) (tgt := 61) dX0_run_56 (by decide) (by decide) ?_
  refine x_iload (pc := 61) dX0_run_61 rfl ?_
  refine x_callSN (pc := 63) (As := [.int _]) dX0_run_63 km_X9_kindAbove ks_X9_kindAbove kn_RX0_40 rfl (by decide) ⟨Nat.le_refl _, Nat.le_refl _⟩ rfl (Nat.le_of_ble_eq_true rfl) (Nat.le_of_ble_eq_true rfl) (c_kindAbove (k := 0) (by decide) (⟨rfl, rfl, ?_⟩))
  rw [show kAbI 0 = (-1) from rfl]
  refine x_istore (pc := 66) (lv' := [(0, .ref ac), (1, .int 1), (2, .int 2), (3, .int x), (4, .int (nI dd)), (5, .int 0), (6, .int 11), (7, .int (-1))]) dX0_run_66 (by decide) rfl ?_
  refine x_iload (pc := 68) dX0_run_68 rfl ?_
  refine x_iconst (pc := 70) (v := 1) dX0_run_70 (by decide) ?_
  refine x_iaddn (pc := 71) (a := dd) (b := 1) dX0_run_71 ?_
  refine x_istore (pc := 72) (lv' := [(0, .ref ac), (1, .int 1), (2, .int 2), (3, .int x), (4, .int (nI dd)), (5, .int 0), (6, .int 11), (7, .int (-1)), (8, .int (nI (dd + 1)))]) dX0_run_72 (by decide) rfl ?_
  refine x_aload_n (pc := 74) dX0_run_74 rfl rfl ?_
  refine x_dup (pc := 75) dX0_run_75 rfl ?_
  refine x_get (pc := 76) dX0_run_76 kf_RX0_20 hS.1 rfl ?_
  rw [show I ac 1 = nI r from hA.1]
  refine x_iconst (pc := 79) (v := 1) dX0_run_79 (by decide) ?_
  refine x_iaddn (pc := 80) (a := r) (b := 1) dX0_run_80 ?_
  refine x_put (pc := 81) dX0_run_81 kf_RX0_20 hS.1 rfl (Or.inl kb_0_1) ?_
  refine x_aload_n (pc := 84) dX0_run_84 rfl rfl ?_
  refine x_getr (pc := 85) dX0_run_85 kf_RX0_16 hS.1 rfl hS.2.1 ?_
  refine x_iload (pc := 88) dX0_run_88 rfl ?_
  refine x_callV (pc := 90) (As := [.int _]) dX0_run_90 km_X5_add kv_X5_add kl_RX0_44 hS.2.2.1 rfl rfl (by decide) ⟨Nat.le_refl _, Nat.le_refl _⟩ rfl (Nat.le_of_ble_eq_true rfl) (Nat.le_of_ble_eq_true rfl) (c_add (x := 11) (m := r) hS.2.2 ((congrFun (up2_row (by omega)) 1).trans hA.2.2.2.2.1) (by omega) (⟨rfl, rfl, ?_⟩))
  have h0 := hA.step (x := 11) (a := 11) rfl
  have g0 := @atF.st I ac 1 r 1 (nI (r + 1)) 11 (nI (r + 1))
  refine x_iload (pc := 93) dX0_run_93 rfl ?_
  refine x_lsw (pc := 95) (dt := 362) [(10, 192), (11, 199), (12, 217), (20, 232), (30, 246), (40, 259), (50, 283), (51, 295), (60, 308), (70, 324), (71, 346)] dX0_run_95 (by decide +kernel) (by decide +kernel) (by decide) ?_
  refine xsw_c (fun h => absurd h (by decide)) (fun _ => ?_)
  refine xsw_c (fun _ => ?_) (fun h => absurd rfl h)
  refine x_aload_n (pc := 199) dX0_run_199 rfl rfl ?_
  refine x_iconst (pc := 200) (v := 0) dX0_run_200 (by decide) ?_
  refine x_aload_n (pc := 201) dX0_run_201 rfl rfl ?_
  refine x_get (pc := 202) dX0_run_202 kf_RX0_24 hS.1 rfl ?_
  rw [show _ = (6 : Int32) from h0.2.1]
  refine x_iload_n (pc := 205) dX0_run_205 rfl rfl ?_
  refine x_iload (pc := 206) dX0_run_206 rfl ?_
  refine x_callS (pc := 208) (As := [.ref _, .int _, .int _, .int _, .int _]) dX0_run_208 km_X0_run ks_X0_run kl_RX0_47 rfl (by decide) ⟨Nat.le_refl _, Nat.le_refl _⟩ rfl (Nat.le_of_ble_eq_true rfl) (Nat.le_of_ble_eq_true rfl) (c_run_6_0_6 (dd := dd + 1) hS h0 (by omega) (by omega) (fun J1 h1 f1 => ⟨rfl, rfl, ?_⟩))
  have g1 := g0.tr f1
  refine x_aload_n (pc := 211) dX0_run_211 rfl rfl ?_
  refine x_get (pc := 212) dX0_run_212 kf_RX0_27 hS.1 rfl ?_
  rw [show _ = (nI v : Int32) from h1.2.2.1]
  refine x_isub (pc := 215) dX0_run_215 ?_
  refine x_ireturn (pc := 216) dX0_run_216 ⟨_, rfl, rfl⟩ ⟨Nat.le_refl _, Nat.le_refl _⟩ ?_
  exact K _ h1 g1

set_option maxHeartbeats 4000000 in
set_option maxRecDepth 100000 in
theorem c_run_6_1_6 {T : xT} {n : Nat} {sh : Nat → Nat × Nat} {I : xI} {R : xR} {L : xL} {P : xPost} {ac v b r : Nat} {f : Nat → Nat} (hS : sh ac = (0, 0) ∧ R ac 0 = some (ac + 1) ∧ xRow sh R (ac + 1) (ac + 2) 20) {x : Int32} {dd : Nat} (hA : ATC I ac 6 v b r f) (hr : r + 7 ≤ 20) (hd : dd + 5 ≤ 20) (K : ∀ J : xI, ATC J ac 6 v b (r + 7) (apL f r [70, 11, 71, 30, 10, 30, 10]) → atF ac I J → P (n, sh, 0, 0) J R L (some (.int (((((x * 3) + nI b) ^^^ nI v) - nI v) + ((2 * 3) + nI b))))) : XM T zX0_run 5 [.ref ac, .int 1, .int 6, .int x, .int (nI dd)] n sh I R L P := by
  refine x_iload (pc := 0) dX0_run_0 rfl ?_
  refine x_bipush (pc := 2) (v := 20) dX0_run_2 (by decide) ?_
  refine x_icmpn_le_t (pc := 4) (tgt := 9) (a := dd) (b := 20) dX0_run_4 (by decide) (by omega) (by decide) (by omega) ?_
  refine x_iload_n (pc := 9) dX0_run_9 rfl rfl ?_
  refine x_istore (pc := 10) (lv' := [(0, .ref ac), (1, .int 1), (2, .int 6), (3, .int x), (4, .int (nI dd)), (5, .int 6)]) dX0_run_10 (by decide) rfl ?_
  refine x_iconst (pc := 12) (v := 0) dX0_run_12 (by decide) ?_
  refine x_istore (pc := 13) (lv' := [(0, .ref ac), (1, .int 1), (2, .int 6), (3, .int x), (4, .int (nI dd)), (5, .int 6), (6, .int 0)]) dX0_run_13 (by decide) rfl ?_
  refine x_iload (pc := 15) dX0_run_15 rfl ?_
  refine x_bipush (pc := 17) (v := 7) dX0_run_17 (by decide) ?_
  refine x_icmp_ge_f (pc := 19) (tgt := 45) dX0_run_19 (by decide) (by decide) ?_
  refine x_iload (pc := 22) dX0_run_22 rfl ?_
  refine x_iload_n (pc := 24) dX0_run_24 rfl rfl ?_
  refine x_callS (pc := 25) (As := [.int _, .int _]) dX0_run_25 km_X0_bodyOf ks_X0_bodyOf kl_RX0_36 rfl (by decide) ⟨Nat.le_refl _, Nat.le_refl _⟩ rfl (Nat.le_of_ble_eq_true rfl) (Nat.le_of_ble_eq_true rfl) (c_bodyOf_6_1 (⟨rfl, rfl, ?_⟩))
  refine x_iconst (pc := 28) (v := -1) dX0_run_28 (by decide) ?_
  refine x_icmp_ne_t (pc := 29) (tgt := 45) dX0_run_29 (by decide) (by decide) ?_
  refine x_iload (pc := 45) dX0_run_45 rfl ?_
  refine x_iload_n (pc := 47) dX0_run_47 rfl rfl ?_
  refine x_callS (pc := 48) (As := [.int _, .int _]) dX0_run_48 km_X0_bodyOf ks_X0_bodyOf kl_RX0_36 rfl (by decide) ⟨Nat.le_refl _, Nat.le_refl _⟩ rfl (Nat.le_of_ble_eq_true rfl) (Nat.le_of_ble_eq_true rfl) (c_bodyOf_6_1 (⟨rfl, rfl, ?_⟩))
  refine x_istore (pc := 51) (lv' := [(0, .ref ac), (1, .int 1), (2, .int 6), (3, .int x), (4, .int (nI dd)), (5, .int 6), (6, .int 70)]) dX0_run_51 (by decide) rfl ?_
  refine x_iload (pc := 53) dX0_run_53 rfl ?_
  refine x_iconst (pc := 55) (v := -1) dX0_run_55 (by decide) ?_
  refine x_icmp_ne_t (pc := 56) (tgt := 61) dX0_run_56 (by decide) (by decide) ?_
  refine x_iload (pc := 61) dX0_run_61 rfl ?_
  refine x_callSN (pc := 63) (As := [.int _]) dX0_run_63 km_X9_kindAbove ks_X9_kindAbove kn_RX0_40 rfl (by decide) ⟨Nat.le_refl _, Nat.le_refl _⟩ rfl (Nat.le_of_ble_eq_true rfl) (Nat.le_of_ble_eq_true rfl) (c_kindAbove (k := 6) (by decide) (⟨rfl, rfl, ?_⟩))
  rw [show kAbI 6 = 2 from rfl]
  refine x_istore (pc := 66) (lv' := [(0, .ref ac), (1, .int 1), (2, .int 6), (3, .int x), (4, .int (nI dd)), (5, .int 6), (6, .int 70), (7, .int 2)]) dX0_run_66 (by decide) rfl ?_
  refine x_iload (pc := 68) dX0_run_68 rfl ?_
  refine x_iconst (pc := 70) (v := 1) dX0_run_70 (by decide) ?_
  refine x_iaddn (pc := 71) (a := dd) (b := 1) dX0_run_71 ?_
  refine x_istore (pc := 72) (lv' := [(0, .ref ac), (1, .int 1), (2, .int 6), (3, .int x), (4, .int (nI dd)), (5, .int 6), (6, .int 70), (7, .int 2), (8, .int (nI (dd + 1)))]) dX0_run_72 (by decide) rfl ?_
  refine x_aload_n (pc := 74) dX0_run_74 rfl rfl ?_
  refine x_dup (pc := 75) dX0_run_75 rfl ?_
  refine x_get (pc := 76) dX0_run_76 kf_RX0_20 hS.1 rfl ?_
  rw [show I ac 1 = nI r from hA.1]
  refine x_iconst (pc := 79) (v := 1) dX0_run_79 (by decide) ?_
  refine x_iaddn (pc := 80) (a := r) (b := 1) dX0_run_80 ?_
  refine x_put (pc := 81) dX0_run_81 kf_RX0_20 hS.1 rfl (Or.inl kb_0_1) ?_
  refine x_aload_n (pc := 84) dX0_run_84 rfl rfl ?_
  refine x_getr (pc := 85) dX0_run_85 kf_RX0_16 hS.1 rfl hS.2.1 ?_
  refine x_iload (pc := 88) dX0_run_88 rfl ?_
  refine x_callV (pc := 90) (As := [.int _]) dX0_run_90 km_X5_add kv_X5_add kl_RX0_44 hS.2.2.1 rfl rfl (by decide) ⟨Nat.le_refl _, Nat.le_refl _⟩ rfl (Nat.le_of_ble_eq_true rfl) (Nat.le_of_ble_eq_true rfl) (c_add (x := 70) (m := r) hS.2.2 ((congrFun (up2_row (by omega)) 1).trans hA.2.2.2.2.1) (by omega) (⟨rfl, rfl, ?_⟩))
  have h0 := hA.step (x := 70) (a := 70) rfl
  have g0 := @atF.st I ac 1 r 1 (nI (r + 1)) 70 (nI (r + 1))
  refine x_iload (pc := 93) dX0_run_93 rfl ?_
  refine x_lsw (pc := 95) (dt := 362) [(10, 192), (11, 199), (12, 217), (20, 232), (30, 246), (40, 259), (50, 283), (51, 295), (60, 308), (70, 324), (71, 346)] dX0_run_95 (by decide +kernel) (by decide +kernel) (by decide) ?_
  refine xsw_c (fun h => absurd h (by decide)) (fun _ => ?_)
  refine xsw_c (fun h => absurd h (by decide)) (fun _ => ?_)
  refine xsw_c (fun h => absurd h (by decide)) (fun _ => ?_)
  refine xsw_c (fun h => absurd h (by decide)) (fun _ => ?_)
  refine xsw_c (fun h => absurd h (by decide)) (fun _ => ?_)
  refine xsw_c (fun h => absurd h (by decide)) (fun _ => ?_)
  refine xsw_c (fun h => absurd h (by decide)) (fun _ => ?_)
  refine xsw_c (fun h => absurd h (by decide)) (fun _ => ?_)
  refine xsw_c (fun h => absurd h (by decide)) (fun _ => ?_)
  refine xsw_c (fun _ => ?_) (fun h => absurd rfl h)
  refine x_aload_n (pc := 324) dX0_run_324 rfl rfl ?_
  refine x_iconst (pc := 325) (v := 1) dX0_run_325 (by decide) ?_
  refine x_iload (pc := 326) dX0_run_326 rfl ?_
  refine x_iload_n (pc := 328) dX0_run_328 rfl rfl ?_
  refine x_iload (pc := 329) dX0_run_329 rfl ?_
  refine x_callS (pc := 331) (As := [.ref _, .int _, .int _, .int _, .int _]) dX0_run_331 km_X0_run ks_X0_run kl_RX0_47 rfl (by decide) ⟨Nat.le_refl _, Nat.le_refl _⟩ rfl (Nat.le_of_ble_eq_true rfl) (Nat.le_of_ble_eq_true rfl) (c_run_6_1_2 (dd := dd + 1) hS h0 (by omega) (by omega) (fun J1 h1 f1 => ⟨rfl, rfl, ?_⟩))
  have g1 := g0.tr f1
  refine x_aload_n (pc := 334) dX0_run_334 rfl rfl ?_
  refine x_iconst (pc := 335) (v := 0) dX0_run_335 (by decide) ?_
  refine x_iload (pc := 336) dX0_run_336 rfl ?_
  refine x_iconst (pc := 338) (v := 2) dX0_run_338 (by decide) ?_
  refine x_iload (pc := 339) dX0_run_339 rfl ?_
  refine x_callS (pc := 341) (As := [.ref _, .int _, .int _, .int _, .int _]) dX0_run_341 km_X0_run ks_X0_run kl_RX0_47 rfl (by decide) ⟨Nat.le_refl _, Nat.le_refl _⟩ rfl (Nat.le_of_ble_eq_true rfl) (Nat.le_of_ble_eq_true rfl) (c_run_6_0_2 (dd := dd + 1) hS h1 (by omega) (by omega) (fun J2 h2 f2 => ⟨rfl, rfl, ?_⟩))
  have g2 := g1.tr f2
  refine x_iadd (pc := 344) dX0_run_344 ?_
  refine x_ireturn (pc := 345) dX0_run_345 ⟨_, rfl, rfl⟩ ⟨Nat.le_refl _, Nat.le_refl _⟩ ?_
  exact K _ h2 g2

set_option maxHeartbeats 4000000 in
set_option maxRecDepth 100000 in
theorem c_run_6_2_6 {T : xT} {n : Nat} {sh : Nat → Nat × Nat} {I : xI} {R : xR} {L : xL} {P : xPost} {ac v b r : Nat} {f : Nat → Nat} (hS : sh ac = (0, 0) ∧ R ac 0 = some (ac + 1) ∧ xRow sh R (ac + 1) (ac + 2) 20) {x : Int32} {dd : Nat} (hA : ATC I ac 6 v b r f) (hr : r + 8 ≤ 20) (hd : dd + 6 ≤ 20) (K : ∀ J : xI, ATC J ac 6 v b (r + 8) (apL f r [12, 70, 11, 71, 30, 10, 30, 10]) → atF ac I J → P (n, sh, 0, 0) J R L (some (.int ((((((x * 3) + nI b) ^^^ nI v) - nI v) + ((2 * 3) + nI b)) * 2)))) : XM T zX0_run 6 [.ref ac, .int 2, .int 6, .int x, .int (nI dd)] n sh I R L P := by
  refine x_iload (pc := 0) dX0_run_0 rfl ?_
  refine x_bipush (pc := 2) (v := 20) dX0_run_2 (by decide) ?_
  refine x_icmpn_le_t (pc := 4) (tgt := 9) (a := dd) (b := 20) dX0_run_4 (by decide) (by omega) (by decide) (by omega) ?_
  refine x_iload_n (pc := 9) dX0_run_9 rfl rfl ?_
  refine x_istore (pc := 10) (lv' := [(0, .ref ac), (1, .int 2), (2, .int 6), (3, .int x), (4, .int (nI dd)), (5, .int 6)]) dX0_run_10 (by decide) rfl ?_
  refine x_iconst (pc := 12) (v := 0) dX0_run_12 (by decide) ?_
  refine x_istore (pc := 13) (lv' := [(0, .ref ac), (1, .int 2), (2, .int 6), (3, .int x), (4, .int (nI dd)), (5, .int 6), (6, .int 0)]) dX0_run_13 (by decide) rfl ?_
  refine x_iload (pc := 15) dX0_run_15 rfl ?_
  refine x_bipush (pc := 17) (v := 7) dX0_run_17 (by decide) ?_
  refine x_icmp_ge_f (pc := 19) (tgt := 45) dX0_run_19 (by decide) (by decide) ?_
  refine x_iload (pc := 22) dX0_run_22 rfl ?_
  refine x_iload_n (pc := 24) dX0_run_24 rfl rfl ?_
  refine x_callS (pc := 25) (As := [.int _, .int _]) dX0_run_25 km_X0_bodyOf ks_X0_bodyOf kl_RX0_36 rfl (by decide) ⟨Nat.le_refl _, Nat.le_refl _⟩ rfl (Nat.le_of_ble_eq_true rfl) (Nat.le_of_ble_eq_true rfl) (c_bodyOf_6_2 (⟨rfl, rfl, ?_⟩))
  refine x_iconst (pc := 28) (v := -1) dX0_run_28 (by decide) ?_
  refine x_icmp_ne_f (pc := 29) (tgt := 45) dX0_run_29 (by decide) (by decide) ?_
  refine x_iload (pc := 32) dX0_run_32 rfl ?_
  refine x_callSN (pc := 34) (As := [.int _]) dX0_run_34 km_X9_kindAbove ks_X9_kindAbove kn_RX0_40 rfl (by decide) ⟨Nat.le_refl _, Nat.le_refl _⟩ rfl (Nat.le_of_ble_eq_true rfl) (Nat.le_of_ble_eq_true rfl) (c_kindAbove (k := 6) (by decide) (⟨rfl, rfl, ?_⟩))
  rw [show kAbI 6 = 2 from rfl]
  refine x_istore (pc := 37) (lv' := [(0, .ref ac), (1, .int 2), (2, .int 6), (3, .int x), (4, .int (nI dd)), (5, .int 2), (6, .int 0)]) dX0_run_37 (by decide) rfl ?_
  refine x_iinc (pc := 39) (v := 1) (lv' := [(0, .ref ac), (1, .int 2), (2, .int 6), (3, .int x), (4, .int (nI dd)), (5, .int 2), (6, .int 1)]) dX0_run_39 rfl (by decide) (by decide) rfl ?_
  refine x_goto (pc := 42) (tgt := 15) dX0_run_42 (by decide) ?_
  refine x_iload (pc := 15) dX0_run_15 rfl ?_
  refine x_bipush (pc := 17) (v := 7) dX0_run_17 (by decide) ?_
  refine x_icmp_ge_f (pc := 19) (tgt := 45) dX0_run_19 (by decide) (by decide) ?_
  refine x_iload (pc := 22) dX0_run_22 rfl ?_
  refine x_iload_n (pc := 24) dX0_run_24 rfl rfl ?_
  refine x_callS (pc := 25) (As := [.int _, .int _]) dX0_run_25 km_X0_bodyOf ks_X0_bodyOf kl_RX0_36 rfl (by decide) ⟨Nat.le_refl _, Nat.le_refl _⟩ rfl (Nat.le_of_ble_eq_true rfl) (Nat.le_of_ble_eq_true rfl) (c_bodyOf_2_2 (⟨rfl, rfl, ?_⟩))
  refine x_iconst (pc := 28) (v := -1) dX0_run_28 (by decide) ?_
  refine x_icmp_ne_f (pc := 29) (tgt := 45) dX0_run_29 (by decide) (by decide) ?_
  refine x_iload (pc := 32) dX0_run_32 rfl ?_
  refine x_callSN (pc := 34) (As := [.int _]) dX0_run_34 km_X9_kindAbove ks_X9_kindAbove kn_RX0_40 rfl (by decide) ⟨Nat.le_refl _, Nat.le_refl _⟩ rfl (Nat.le_of_ble_eq_true rfl) (Nat.le_of_ble_eq_true rfl) (c_kindAbove (k := 2) (by decide) (⟨rfl, rfl, ?_⟩))
  rw [show kAbI 2 = 0 from rfl]
  refine x_istore (pc := 37) (lv' := [(0, .ref ac), (1, .int 2), (2, .int 6), (3, .int x), (4, .int (nI dd)), (5, .int 0), (6, .int 1)]) dX0_run_37 (by decide) rfl ?_
  refine x_iinc (pc := 39) (v := 2) (lv' := [(0, .ref ac), (1, .int 2), (2, .int 6), (3, .int x), (4, .int (nI dd)), (5, .int 0), (6, .int 2)]) dX0_run_39 rfl (by decide) (by decide) rfl ?_
  refine x_goto (pc := 42) (tgt := 15) dX0_run_42 (by decide) ?_
  refine x_iload (pc := 15) dX0_run_15 rfl ?_
  refine x_bipush (pc := 17) (v := 7) dX0_run_17 (by decide) ?_
  refine x_icmp_ge_f (pc := 19) (tgt := 45) dX0_run_19 (by decide) (by decide) ?_
  refine x_iload (pc := 22) dX0_run_22 rfl ?_
  refine x_iload_n (pc := 24) dX0_run_24 rfl rfl ?_
  refine x_callS (pc := 25) (As := [.int _, .int _]) dX0_run_25 km_X0_bodyOf ks_X0_bodyOf kl_RX0_36 rfl (by decide) ⟨Nat.le_refl _, Nat.le_refl _⟩ rfl (Nat.le_of_ble_eq_true rfl) (Nat.le_of_ble_eq_true rfl) (c_bodyOf_0_2 (⟨rfl, rfl, ?_⟩))
  refine x_iconst (pc := 28) (v := -1) dX0_run_28 (by decide) ?_
  refine x_icmp_ne_t (pc := 29) (tgt := 45) dX0_run_29 (by decide) (by decide) ?_
  refine x_iload (pc := 45) dX0_run_45 rfl ?_
  refine x_iload_n (pc := 47) dX0_run_47 rfl rfl ?_
  refine x_callS (pc := 48) (As := [.int _, .int _]) dX0_run_48 km_X0_bodyOf ks_X0_bodyOf kl_RX0_36 rfl (by decide) ⟨Nat.le_refl _, Nat.le_refl _⟩ rfl (Nat.le_of_ble_eq_true rfl) (Nat.le_of_ble_eq_true rfl) (c_bodyOf_0_2 (⟨rfl, rfl, ?_⟩))
  refine x_istore (pc := 51) (lv' := [(0, .ref ac), (1, .int 2), (2, .int 6), (3, .int x), (4, .int (nI dd)), (5, .int 0), (6, .int 12)]) dX0_run_51 (by decide) rfl ?_
  refine x_iload (pc := 53) dX0_run_53 rfl ?_
  refine x_iconst (pc := 55) (v := -1) dX0_run_55 (by decide) ?_
  refine x_icmp_ne_t (pc := 56) (tgt := 61) dX0_run_56 (by decide) (by decide) ?_
  refine x_iload (pc := 61) dX0_run_61 rfl ?_
  refine x_callSN (pc := 63) (As := [.int _]) dX0_run_63 km_X9_kindAbove ks_X9_kindAbove kn_RX0_40 rfl (by decide) ⟨Nat.le_refl _, Nat.le_refl _⟩ rfl (Nat.le_of_ble_eq_true rfl) (Nat.le_of_ble_eq_true rfl) (c_kindAbove (k := 0) (by decide) (⟨rfl, rfl, ?_⟩))
  rw [show kAbI 0 = (-1) from rfl]
  refine x_istore (pc := 66) (lv' := [(0, .ref ac), (1, .int 2), (2, .int 6), (3, .int x), (4, .int (nI dd)), (5, .int 0), (6, .int 12), (7, .int (-1))]) dX0_run_66 (by decide) rfl ?_
  refine x_iload (pc := 68) dX0_run_68 rfl ?_
  refine x_iconst (pc := 70) (v := 1) dX0_run_70 (by decide) ?_
  refine x_iaddn (pc := 71) (a := dd) (b := 1) dX0_run_71 ?_
  refine x_istore (pc := 72) (lv' := [(0, .ref ac), (1, .int 2), (2, .int 6), (3, .int x), (4, .int (nI dd)), (5, .int 0), (6, .int 12), (7, .int (-1)), (8, .int (nI (dd + 1)))]) dX0_run_72 (by decide) rfl ?_
  refine x_aload_n (pc := 74) dX0_run_74 rfl rfl ?_
  refine x_dup (pc := 75) dX0_run_75 rfl ?_
  refine x_get (pc := 76) dX0_run_76 kf_RX0_20 hS.1 rfl ?_
  rw [show I ac 1 = nI r from hA.1]
  refine x_iconst (pc := 79) (v := 1) dX0_run_79 (by decide) ?_
  refine x_iaddn (pc := 80) (a := r) (b := 1) dX0_run_80 ?_
  refine x_put (pc := 81) dX0_run_81 kf_RX0_20 hS.1 rfl (Or.inl kb_0_1) ?_
  refine x_aload_n (pc := 84) dX0_run_84 rfl rfl ?_
  refine x_getr (pc := 85) dX0_run_85 kf_RX0_16 hS.1 rfl hS.2.1 ?_
  refine x_iload (pc := 88) dX0_run_88 rfl ?_
  refine x_callV (pc := 90) (As := [.int _]) dX0_run_90 km_X5_add kv_X5_add kl_RX0_44 hS.2.2.1 rfl rfl (by decide) ⟨Nat.le_refl _, Nat.le_refl _⟩ rfl (Nat.le_of_ble_eq_true rfl) (Nat.le_of_ble_eq_true rfl) (c_add (x := 12) (m := r) hS.2.2 ((congrFun (up2_row (by omega)) 1).trans hA.2.2.2.2.1) (by omega) (⟨rfl, rfl, ?_⟩))
  have h0 := hA.step (x := 12) (a := 12) rfl
  have g0 := @atF.st I ac 1 r 1 (nI (r + 1)) 12 (nI (r + 1))
  refine x_iload (pc := 93) dX0_run_93 rfl ?_
  refine x_lsw (pc := 95) (dt := 362) [(10, 192), (11, 199), (12, 217), (20, 232), (30, 246), (40, 259), (50, 283), (51, 295), (60, 308), (70, 324), (71, 346)] dX0_run_95 (by decide +kernel) (by decide +kernel) (by decide) ?_
  refine xsw_c (fun h => absurd h (by decide)) (fun _ => ?_)
  refine xsw_c (fun h => absurd h (by decide)) (fun _ => ?_)
  refine xsw_c (fun _ => ?_) (fun h => absurd rfl h)
  refine x_aload_n (pc := 217) dX0_run_217 rfl rfl ?_
  refine x_iconst (pc := 218) (v := 1) dX0_run_218 (by decide) ?_
  refine x_aload_n (pc := 219) dX0_run_219 rfl rfl ?_
  refine x_get (pc := 220) dX0_run_220 kf_RX0_24 hS.1 rfl ?_
  rw [show _ = (6 : Int32) from h0.2.1]
  refine x_iload_n (pc := 223) dX0_run_223 rfl rfl ?_
  refine x_iload (pc := 224) dX0_run_224 rfl ?_
  refine x_callS (pc := 226) (As := [.ref _, .int _, .int _, .int _, .int _]) dX0_run_226 km_X0_run ks_X0_run kl_RX0_47 rfl (by decide) ⟨Nat.le_refl _, Nat.le_refl _⟩ rfl (Nat.le_of_ble_eq_true rfl) (Nat.le_of_ble_eq_true rfl) (c_run_6_1_6 (dd := dd + 1) hS h0 (by omega) (by omega) (fun J1 h1 f1 => ⟨rfl, rfl, ?_⟩))
  have g1 := g0.tr f1
  refine x_iconst (pc := 229) (v := 2) dX0_run_229 (by decide) ?_
  refine x_imul (pc := 230) dX0_run_230 ?_
  refine x_ireturn (pc := 231) dX0_run_231 ⟨_, rfl, rfl⟩ ⟨Nat.le_refl _, Nat.le_refl _⟩ ?_
  exact K _ h1 g1

def actR (ka a : Nat) (x : Int32) (v b : Nat) : Int32 := if ka = 0 then (if a = 0 then (x + nI b) else if a = 1 then ((x + nI b) - nI v) else (((x + nI b) - nI v) * 2)) else if ka = 1 then (if a = 0 then (x + nI b) else if a = 1 then (((x + nI b) - nI v) ^^^ 6) else ((((x + nI b) - nI v) ^^^ 6) * 2)) else if ka = 2 then (if a = 0 then ((x * 3) + nI b) else if a = 1 then (((x * 3) + nI b) - nI v) else ((((x * 3) + nI b) - nI v) * 2)) else if ka = 3 then (if a = 0 then (x + nI b) else if a = 1 then ((x + nI b) - nI v) else ((((x + nI b) - nI v) * 2) + ((1 + nI b) - nI v))) else if ka = 4 then (if a = 0 then (-(x + nI b)) else if a = 1 then (((-((x + 1) + nI b)) - nI v) ^^^ 6) else ((((-((x + 1) + nI b)) - nI v) ^^^ 6) * 2)) else if ka = 5 then (if a = 0 then (x + nI b) else if a = 1 then (((x + nI b) - nI v) ^^^ 6) else (((((x - nI b) + nI b) - nI v) ^^^ 6) * 2)) else if ka = 6 then (if a = 0 then (((x * 3) + nI b) ^^^ nI v) else if a = 1 then (((((x * 3) + nI b) ^^^ nI v) - nI v) + ((2 * 3) + nI b)) else ((((((x * 3) + nI b) ^^^ nI v) - nI v) + ((2 * 3) + nI b)) * 2)) else 0
def actL (ka a : Nat) : List Nat := if ka = 0 then (if a = 0 then [10] else if a = 1 then [11, 10] else [12, 11, 10]) else if ka = 1 then (if a = 0 then [10] else if a = 1 then [20, 11, 10] else [12, 20, 11, 10]) else if ka = 2 then (if a = 0 then [30, 10] else if a = 1 then [11, 30, 10] else [12, 11, 30, 10]) else if ka = 3 then (if a = 0 then [10] else if a = 1 then [11, 10] else [40, 12, 11, 10, 11, 10]) else if ka = 4 then (if a = 0 then [50, 10] else if a = 1 then [51, 20, 11, 50, 10] else [12, 51, 20, 11, 50, 10]) else if ka = 5 then (if a = 0 then [10] else if a = 1 then [20, 11, 10] else [60, 12, 20, 11, 10]) else if ka = 6 then (if a = 0 then [71, 30, 10] else if a = 1 then [70, 11, 71, 30, 10, 30, 10] else [12, 70, 11, 71, 30, 10, 30, 10]) else []
theorem actL_le : ∀ ka, ka < 7 → ∀ a, a < 3 → (actL ka a).length ≤ 20 := by decide
def spAct (V : xV) (x y z : Int32) : Int32 × List Nat := match idx (V 8 0) x with
  | none => (0, [])
  | some b => match idx 3 y with
    | none => (0, [])
    | some a => (actR (V 0 b) a z (V 1 b) b, actL (V 0 b) a)
theorem spAct_1 {V : xV} {x y z : Int32} (h : x < 0 ∨ nI (V 8 0) ≤ x) : spAct V x y z = (0, []) := by
  unfold spAct
  rw [idx_n h]
theorem spAct_2 {V : xV} {x y z : Int32} (h : y < 0 ∨ 2 < y) : spAct V x y z = (0, []) := by
  unfold spAct
  cases idx (V 8 0) x with
  | none => rfl
  | some b =>
    show (match idx 3 y with | none => _ | some a => _) = _
    rw [idx_n (n := 3) (h.imp id (fun h => le_of_lt1 (n := 2) (by decide) h))]
theorem spAct_s {V : xV} {z : Int32} {b a : Nat} (h6 : V 8 0 ≤ 6) (hb : b < V 8 0) (ha : a < 3) : spAct V (nI b) (nI a) z = (actR (V 0 b) a z (V 1 b) b, actL (V 0 b) a) := by
  unfold spAct
  rw [idx_s hb (by omega)]
  show (match idx 3 (nI a) with | none => _ | some a => _) = _
  rw [idx_s ha (by decide)]
theorem i3_k {x : Int32} (h1 : ¬ x < 0) (h2 : ¬ 2 < x) : x = nI 0 ∨ x = nI 1 ∨ x = nI 2 := by
  obtain ⟨j, hj, rfl⟩ := nI_of h1
  have : j ≤ 2 := by
    rcases Nat.lt_or_ge 2 j with h | h
    · exact absurd ((nI_ltI (a := 2) (by decide) hj).mpr h) h2
    · exact h
  rcases j with _|_|_|j
  · exact Or.inl rfl
  · exact Or.inr (Or.inl rfl)
  · exact Or.inr (Or.inr rfl)
  · omega
/-- the acts noted -/
def ACT (I : xI) (ac : Nat) (l : List Nat) : Prop := I ac 1 = nI l.length ∧ bRow I (ac + 1) l.length (fun i => l.getD i 0)
def AMT (I : xI) (M : Nat) (l : List Nat) : Prop := I M 64 = nI l.length ∧ ∀ i, i < l.length → I (M + 35) i = nI (l.getD i 0)
theorem ATC.act {I : xI} {ac ka v b : Nat} {f : Nat → Nat} {l : List Nat} (h : ATC I ac ka v b (0 + l.length) (apL f 0 l)) : ACT I ac l := by
  obtain ⟨h1, h2, h3, h4, h5, h6⟩ := h
  rw [Nat.zero_add] at h1 h5 h6
  refine ⟨h1, h5, fun i hi => ?_⟩
  rw [h6 i hi]
  have := apL_get l f 0 i hi
  rw [Nat.zero_add] at this
  exact congrArg nI this
theorem ATM.act {I : xI} {M ka v b : Nat} {f : Nat → Nat} {l : List Nat} (h : ATM I M ka v b (0 + l.length) (apL f 0 l)) : AMT I M l := by
  obtain ⟨h1, h2, h3, h4⟩ := h
  rw [Nat.zero_add] at h1 h4
  refine ⟨h1, fun i hi => ?_⟩
  rw [h4 i hi]
  have := apL_get l f 0 i hi
  rw [Nat.zero_add] at this
  exact congrArg nI this
theorem k7c {k : Nat} (h : k < 7) : k = 0 ∨ k = 1 ∨ k = 2 ∨ k = 3 ∨ k = 4 ∨ k = 5 ∨ k = 6 := by omega

set_option maxHeartbeats 4000000 in
set_option maxRecDepth 100000 in
theorem l_act_0_0 {T : xT} {n : Nat} {sh : Nat → Nat × Nat} {I : xI} {R : xR} {L : xL} {P : xPost} {lr nw im tr rd hu se ac M : Nat} (hG : GEO sh R lr nw im tr rd hu se ac M) {V : xV} {B : Nat} (h : FSC I nw V) (hv : VOK V B) {k : Nat} {z : Int32} (hk : k < V 8 0) (hka : V 0 k = 0) (h1 : I ac 1 = 0) (h2 : I (ac + 1) 1 = 0) (K : ∀ J : xI, ACT J ac (actL 0 0) → atF ac I J → P (n, sh, 0, 0) J R L (some (.int (actR 0 0 z (V 1 k) k))))  :  X T zX9_act 7 0 0 P 29 [(0, .ref lr), (1, .int (nI k)), (2, .int 0), (3, .int z)] [] (n, sh, 0, 0) (I) R L := by
  obtain ⟨v6, v12, v10, vb, vf, vw, vm, vta, vte, vod, vrg, vdi⟩ := id hv
  have e1 := hG.g_e_nw
  have e2 := hG.g_e_ac
  refine x_aload_n (pc := 29) dX9_act_29 rfl rfl ?_
  refine x_getr (pc := 30) dX9_act_30 kf_RX9_62 hG.g_x rfl hG.g_f9 ?_
  refine x_aload_n (pc := 33) dX9_act_33 rfl rfl ?_
  refine x_getr (pc := 34) dX9_act_34 kf_RX9_12 hG.g_x rfl hG.g_f0 ?_
  refine x_getr (pc := 37) dX9_act_37 kf_RX9_105 hG.g_nw.1 rfl hG.g_nw.2.2.2.1 ?_
  refine x_iload_n (pc := 40) dX9_act_40 rfl rfl ?_
  refine x_callV (pc := 41) (As := [.int _]) dX9_act_41 km_X5_at kv_X5_at kl_RX9_109 hG.g_nw.2.2.2.2.2.2.2.2.2.2.2.1.1 rfl rfl (by decide) ⟨Nat.le_refl _, Nat.le_refl _⟩ rfl (Nat.le_of_ble_eq_true rfl) (Nat.le_of_ble_eq_true rfl) (c_at (hG.g_nw.2.2.2.2.2.2.2.2.2.2.2.1) (⟨rfl, rfl, ?_⟩))
  rw [show I (nw + 1) 1 = nI (V 8 0) from (h.row 0 (by decide)).1, rAt_in (m := V 8 0) hk v6 (by decide), show I (nw + 2) k = nI (V 0 k) from (h.row 0 (by decide)).2 k hk]
  rw [hka, show nI 0 = (0 : Int32) from rfl]
  refine x_put (pc := 44) dX9_act_44 kf_RX9_309 hG.g_ac rfl (Or.inl kb_0_2) ?_
  refine x_aload_n (pc := 47) dX9_act_47 rfl rfl ?_
  refine x_getr (pc := 48) dX9_act_48 kf_RX9_62 hG.g_x rfl hG.g_f9 ?_
  refine x_aload_n (pc := 51) dX9_act_51 rfl rfl ?_
  refine x_getr (pc := 52) dX9_act_52 kf_RX9_12 hG.g_x rfl hG.g_f0 ?_
  refine x_getr (pc := 55) dX9_act_55 kf_RX9_115 hG.g_nw.1 rfl hG.g_nw.2.2.2.2.1 ?_
  refine x_iload_n (pc := 58) dX9_act_58 rfl rfl ?_
  refine x_callV (pc := 59) (As := [.int _]) dX9_act_59 km_X5_at kv_X5_at kl_RX9_109 hG.g_nw.2.2.2.2.2.2.2.2.2.2.2.2.1.1 rfl rfl (by decide) ⟨Nat.le_refl _, Nat.le_refl _⟩ rfl (Nat.le_of_ble_eq_true rfl) (Nat.le_of_ble_eq_true rfl) (c_at (hG.g_nw.2.2.2.2.2.2.2.2.2.2.2.2.1) (⟨rfl, rfl, ?_⟩))
  rw [up2_row (show nw + 3 ≠ ac by omega), up2_row (show nw + 4 ≠ ac by omega)]
  rw [show I (nw + 3) 1 = nI (V 8 0) from (h.row 1 (by decide)).1, rAt_in (m := V 8 0) hk v6 (by decide), show I (nw + 4) k = nI (V 1 k) from (h.row 1 (by decide)).2 k hk]
  refine x_put (pc := 62) dX9_act_62 kf_RX9_311 hG.g_ac rfl (Or.inl kb_0_3) ?_
  refine x_aload_n (pc := 65) dX9_act_65 rfl rfl ?_
  refine x_getr (pc := 66) dX9_act_66 kf_RX9_62 hG.g_x rfl hG.g_f9 ?_
  refine x_iload_n (pc := 69) dX9_act_69 rfl rfl ?_
  refine x_put (pc := 70) dX9_act_70 kf_RX9_313 hG.g_ac rfl (Or.inl kb_0_4) ?_
  refine x_aload_n (pc := 73) dX9_act_73 rfl rfl ?_
  refine x_getr (pc := 74) dX9_act_74 kf_RX9_62 hG.g_x rfl hG.g_f9 ?_
  refine x_iload_n (pc := 77) dX9_act_77 rfl rfl ?_
  refine x_aload_n (pc := 78) dX9_act_78 rfl rfl ?_
  refine x_getr (pc := 79) dX9_act_79 kf_RX9_62 hG.g_x rfl hG.g_f9 ?_
  refine x_get (pc := 82) dX9_act_82 kf_RX9_309 hG.g_ac rfl ?_
  rw [show up2 (up2 (up2 I ac 2 0) ac 3 (nI (V 1 k))) ac 4 (nI k) ac 2 = 0 from (up2_k (by decide)).trans ((up2_k (by decide)).trans up2_s)]
  have hA0 : ATC (up2 (up2 (up2 I ac 2 0) ac 3 (nI (V 1 k))) ac 4 (nI k)) ac 0 (V 1 k) k 0 (fun _ => 0) := ⟨(up2_k (by decide)).trans ((up2_k (by decide)).trans ((up2_k (by decide)).trans h1)), (up2_k (by decide)).trans ((up2_k (by decide)).trans up2_s), (up2_k (by decide)).trans up2_s, up2_s, (congrFun ((up2_row (by omega)).trans ((up2_row (by omega)).trans (up2_row (by omega)))) 1).trans h2, fun i hi => absurd hi (by omega)⟩
  refine x_iload_n (pc := 85) dX9_act_85 rfl rfl ?_
  refine x_iconst (pc := 86) (v := 0) dX9_act_86 (by decide) ?_
  refine x_callSN (pc := 87) (As := [.ref _, .int _, .int _, .int _, .int _]) dX9_act_87 km_X0_run ks_X0_run kn_RX9_316 rfl (by decide) ⟨Nat.le_refl _, Nat.le_refl _⟩ rfl (Nat.le_of_ble_eq_true rfl) (Nat.le_of_ble_eq_true rfl) (c_run_0_0_0 (dd := 0) (v := V 1 k) (b := k) (r := 0) (f := fun _ => 0) ⟨hG.g_ac, hG.g_ac0, hG.g_trace⟩ hA0 (by decide) (by decide) (fun J hJ gJ => ⟨rfl, rfl, ?_⟩))
  refine x_ireturn (pc := 90) dX9_act_90 ⟨_, rfl, rfl⟩ ⟨Nat.le_refl _, Nat.le_refl _⟩ ?_
  exact K J (ATC.act (l := [10]) hJ) (fun q p1 p2 p3 => (gJ q p1 p2 p3).trans ((up2_row p1).trans ((up2_row p1).trans (up2_row p1))))

set_option maxHeartbeats 4000000 in
set_option maxRecDepth 100000 in
theorem l_act_0_1 {T : xT} {n : Nat} {sh : Nat → Nat × Nat} {I : xI} {R : xR} {L : xL} {P : xPost} {lr nw im tr rd hu se ac M : Nat} (hG : GEO sh R lr nw im tr rd hu se ac M) {V : xV} {B : Nat} (h : FSC I nw V) (hv : VOK V B) {k : Nat} {z : Int32} (hk : k < V 8 0) (hka : V 0 k = 0) (h1 : I ac 1 = 0) (h2 : I (ac + 1) 1 = 0) (K : ∀ J : xI, ACT J ac (actL 0 1) → atF ac I J → P (n, sh, 0, 0) J R L (some (.int (actR 0 1 z (V 1 k) k))))  :  X T zX9_act 7 0 0 P 29 [(0, .ref lr), (1, .int (nI k)), (2, .int 1), (3, .int z)] [] (n, sh, 0, 0) (I) R L := by
  obtain ⟨v6, v12, v10, vb, vf, vw, vm, vta, vte, vod, vrg, vdi⟩ := id hv
  have e1 := hG.g_e_nw
  have e2 := hG.g_e_ac
  refine x_aload_n (pc := 29) dX9_act_29 rfl rfl ?_
  refine x_getr (pc := 30) dX9_act_30 kf_RX9_62 hG.g_x rfl hG.g_f9 ?_
  refine x_aload_n (pc := 33) dX9_act_33 rfl rfl ?_
  refine x_getr (pc := 34) dX9_act_34 kf_RX9_12 hG.g_x rfl hG.g_f0 ?_
  refine x_getr (pc := 37) dX9_act_37 kf_RX9_105 hG.g_nw.1 rfl hG.g_nw.2.2.2.1 ?_
  refine x_iload_n (pc := 40) dX9_act_40 rfl rfl ?_
  refine x_callV (pc := 41) (As := [.int _]) dX9_act_41 km_X5_at kv_X5_at kl_RX9_109 hG.g_nw.2.2.2.2.2.2.2.2.2.2.2.1.1 rfl rfl (by decide) ⟨Nat.le_refl _, Nat.le_refl _⟩ rfl (Nat.le_of_ble_eq_true rfl) (Nat.le_of_ble_eq_true rfl) (c_at (hG.g_nw.2.2.2.2.2.2.2.2.2.2.2.1) (⟨rfl, rfl, ?_⟩))
  rw [show I (nw + 1) 1 = nI (V 8 0) from (h.row 0 (by decide)).1, rAt_in (m := V 8 0) hk v6 (by decide), show I (nw + 2) k = nI (V 0 k) from (h.row 0 (by decide)).2 k hk]
  rw [hka, show nI 0 = (0 : Int32) from rfl]
  refine x_put (pc := 44) dX9_act_44 kf_RX9_309 hG.g_ac rfl (Or.inl kb_0_2) ?_
  refine x_aload_n (pc := 47) dX9_act_47 rfl rfl ?_
  refine x_getr (pc := 48) dX9_act_48 kf_RX9_62 hG.g_x rfl hG.g_f9 ?_
  refine x_aload_n (pc := 51) dX9_act_51 rfl rfl ?_
  refine x_getr (pc := 52) dX9_act_52 kf_RX9_12 hG.g_x rfl hG.g_f0 ?_
  refine x_getr (pc := 55) dX9_act_55 kf_RX9_115 hG.g_nw.1 rfl hG.g_nw.2.2.2.2.1 ?_
  refine x_iload_n (pc := 58) dX9_act_58 rfl rfl ?_
  refine x_callV (pc := 59) (As := [.int _]) dX9_act_59 km_X5_at kv_X5_at kl_RX9_109 hG.g_nw.2.2.2.2.2.2.2.2.2.2.2.2.1.1 rfl rfl (by decide) ⟨Nat.le_refl _, Nat.le_refl _⟩ rfl (Nat.le_of_ble_eq_true rfl) (Nat.le_of_ble_eq_true rfl) (c_at (hG.g_nw.2.2.2.2.2.2.2.2.2.2.2.2.1) (⟨rfl, rfl, ?_⟩))
  rw [up2_row (show nw + 3 ≠ ac by omega), up2_row (show nw + 4 ≠ ac by omega)]
  rw [show I (nw + 3) 1 = nI (V 8 0) from (h.row 1 (by decide)).1, rAt_in (m := V 8 0) hk v6 (by decide), show I (nw + 4) k = nI (V 1 k) from (h.row 1 (by decide)).2 k hk]
  refine x_put (pc := 62) dX9_act_62 kf_RX9_311 hG.g_ac rfl (Or.inl kb_0_3) ?_
  refine x_aload_n (pc := 65) dX9_act_65 rfl rfl ?_
  refine x_getr (pc := 66) dX9_act_66 kf_RX9_62 hG.g_x rfl hG.g_f9 ?_
  refine x_iload_n (pc := 69) dX9_act_69 rfl rfl ?_
  refine x_put (pc := 70) dX9_act_70 kf_RX9_313 hG.g_ac rfl (Or.inl kb_0_4) ?_
  refine x_aload_n (pc := 73) dX9_act_73 rfl rfl ?_
  refine x_getr (pc := 74) dX9_act_74 kf_RX9_62 hG.g_x rfl hG.g_f9 ?_
  refine x_iload_n (pc := 77) dX9_act_77 rfl rfl ?_
  refine x_aload_n (pc := 78) dX9_act_78 rfl rfl ?_
  refine x_getr (pc := 79) dX9_act_79 kf_RX9_62 hG.g_x rfl hG.g_f9 ?_
  refine x_get (pc := 82) dX9_act_82 kf_RX9_309 hG.g_ac rfl ?_
  rw [show up2 (up2 (up2 I ac 2 0) ac 3 (nI (V 1 k))) ac 4 (nI k) ac 2 = 0 from (up2_k (by decide)).trans ((up2_k (by decide)).trans up2_s)]
  have hA0 : ATC (up2 (up2 (up2 I ac 2 0) ac 3 (nI (V 1 k))) ac 4 (nI k)) ac 0 (V 1 k) k 0 (fun _ => 0) := ⟨(up2_k (by decide)).trans ((up2_k (by decide)).trans ((up2_k (by decide)).trans h1)), (up2_k (by decide)).trans ((up2_k (by decide)).trans up2_s), (up2_k (by decide)).trans up2_s, up2_s, (congrFun ((up2_row (by omega)).trans ((up2_row (by omega)).trans (up2_row (by omega)))) 1).trans h2, fun i hi => absurd hi (by omega)⟩
  refine x_iload_n (pc := 85) dX9_act_85 rfl rfl ?_
  refine x_iconst (pc := 86) (v := 0) dX9_act_86 (by decide) ?_
  refine x_callSN (pc := 87) (As := [.ref _, .int _, .int _, .int _, .int _]) dX9_act_87 km_X0_run ks_X0_run kn_RX9_316 rfl (by decide) ⟨Nat.le_refl _, Nat.le_refl _⟩ rfl (Nat.le_of_ble_eq_true rfl) (Nat.le_of_ble_eq_true rfl) (c_run_0_1_0 (dd := 0) (v := V 1 k) (b := k) (r := 0) (f := fun _ => 0) ⟨hG.g_ac, hG.g_ac0, hG.g_trace⟩ hA0 (by decide) (by decide) (fun J hJ gJ => ⟨rfl, rfl, ?_⟩))
  refine x_ireturn (pc := 90) dX9_act_90 ⟨_, rfl, rfl⟩ ⟨Nat.le_refl _, Nat.le_refl _⟩ ?_
  exact K J (ATC.act (l := [11, 10]) hJ) (fun q p1 p2 p3 => (gJ q p1 p2 p3).trans ((up2_row p1).trans ((up2_row p1).trans (up2_row p1))))

set_option maxHeartbeats 4000000 in
set_option maxRecDepth 100000 in
theorem l_act_0_2 {T : xT} {n : Nat} {sh : Nat → Nat × Nat} {I : xI} {R : xR} {L : xL} {P : xPost} {lr nw im tr rd hu se ac M : Nat} (hG : GEO sh R lr nw im tr rd hu se ac M) {V : xV} {B : Nat} (h : FSC I nw V) (hv : VOK V B) {k : Nat} {z : Int32} (hk : k < V 8 0) (hka : V 0 k = 0) (h1 : I ac 1 = 0) (h2 : I (ac + 1) 1 = 0) (K : ∀ J : xI, ACT J ac (actL 0 2) → atF ac I J → P (n, sh, 0, 0) J R L (some (.int (actR 0 2 z (V 1 k) k))))  :  X T zX9_act 7 0 0 P 29 [(0, .ref lr), (1, .int (nI k)), (2, .int 2), (3, .int z)] [] (n, sh, 0, 0) (I) R L := by
  obtain ⟨v6, v12, v10, vb, vf, vw, vm, vta, vte, vod, vrg, vdi⟩ := id hv
  have e1 := hG.g_e_nw
  have e2 := hG.g_e_ac
  refine x_aload_n (pc := 29) dX9_act_29 rfl rfl ?_
  refine x_getr (pc := 30) dX9_act_30 kf_RX9_62 hG.g_x rfl hG.g_f9 ?_
  refine x_aload_n (pc := 33) dX9_act_33 rfl rfl ?_
  refine x_getr (pc := 34) dX9_act_34 kf_RX9_12 hG.g_x rfl hG.g_f0 ?_
  refine x_getr (pc := 37) dX9_act_37 kf_RX9_105 hG.g_nw.1 rfl hG.g_nw.2.2.2.1 ?_
  refine x_iload_n (pc := 40) dX9_act_40 rfl rfl ?_
  refine x_callV (pc := 41) (As := [.int _]) dX9_act_41 km_X5_at kv_X5_at kl_RX9_109 hG.g_nw.2.2.2.2.2.2.2.2.2.2.2.1.1 rfl rfl (by decide) ⟨Nat.le_refl _, Nat.le_refl _⟩ rfl (Nat.le_of_ble_eq_true rfl) (Nat.le_of_ble_eq_true rfl) (c_at (hG.g_nw.2.2.2.2.2.2.2.2.2.2.2.1) (⟨rfl, rfl, ?_⟩))
  rw [show I (nw + 1) 1 = nI (V 8 0) from (h.row 0 (by decide)).1, rAt_in (m := V 8 0) hk v6 (by decide), show I (nw + 2) k = nI (V 0 k) from (h.row 0 (by decide)).2 k hk]
  rw [hka, show nI 0 = (0 : Int32) from rfl]
  refine x_put (pc := 44) dX9_act_44 kf_RX9_309 hG.g_ac rfl (Or.inl kb_0_2) ?_
  refine x_aload_n (pc := 47) dX9_act_47 rfl rfl ?_
  refine x_getr (pc := 48) dX9_act_48 kf_RX9_62 hG.g_x rfl hG.g_f9 ?_
  refine x_aload_n (pc := 51) dX9_act_51 rfl rfl ?_
  refine x_getr (pc := 52) dX9_act_52 kf_RX9_12 hG.g_x rfl hG.g_f0 ?_
  refine x_getr (pc := 55) dX9_act_55 kf_RX9_115 hG.g_nw.1 rfl hG.g_nw.2.2.2.2.1 ?_
  refine x_iload_n (pc := 58) dX9_act_58 rfl rfl ?_
  refine x_callV (pc := 59) (As := [.int _]) dX9_act_59 km_X5_at kv_X5_at kl_RX9_109 hG.g_nw.2.2.2.2.2.2.2.2.2.2.2.2.1.1 rfl rfl (by decide) ⟨Nat.le_refl _, Nat.le_refl _⟩ rfl (Nat.le_of_ble_eq_true rfl) (Nat.le_of_ble_eq_true rfl) (c_at (hG.g_nw.2.2.2.2.2.2.2.2.2.2.2.2.1) (⟨rfl, rfl, ?_⟩))
  rw [up2_row (show nw + 3 ≠ ac by omega), up2_row (show nw + 4 ≠ ac by omega)]
  rw [show I (nw + 3) 1 = nI (V 8 0) from (h.row 1 (by decide)).1, rAt_in (m := V 8 0) hk v6 (by decide), show I (nw + 4) k = nI (V 1 k) from (h.row 1 (by decide)).2 k hk]
  refine x_put (pc := 62) dX9_act_62 kf_RX9_311 hG.g_ac rfl (Or.inl kb_0_3) ?_
  refine x_aload_n (pc := 65) dX9_act_65 rfl rfl ?_
  refine x_getr (pc := 66) dX9_act_66 kf_RX9_62 hG.g_x rfl hG.g_f9 ?_
  refine x_iload_n (pc := 69) dX9_act_69 rfl rfl ?_
  refine x_put (pc := 70) dX9_act_70 kf_RX9_313 hG.g_ac rfl (Or.inl kb_0_4) ?_
  refine x_aload_n (pc := 73) dX9_act_73 rfl rfl ?_
  refine x_getr (pc := 74) dX9_act_74 kf_RX9_62 hG.g_x rfl hG.g_f9 ?_
  refine x_iload_n (pc := 77) dX9_act_77 rfl rfl ?_
  refine x_aload_n (pc := 78) dX9_act_78 rfl rfl ?_
  refine x_getr (pc := 79) dX9_act_79 kf_RX9_62 hG.g_x rfl hG.g_f9 ?_
  refine x_get (pc := 82) dX9_act_82 kf_RX9_309 hG.g_ac rfl ?_
  rw [show up2 (up2 (up2 I ac 2 0) ac 3 (nI (V 1 k))) ac 4 (nI k) ac 2 = 0 from (up2_k (by decide)).trans ((up2_k (by decide)).trans up2_s)]
  have hA0 : ATC (up2 (up2 (up2 I ac 2 0) ac 3 (nI (V 1 k))) ac 4 (nI k)) ac 0 (V 1 k) k 0 (fun _ => 0) := ⟨(up2_k (by decide)).trans ((up2_k (by decide)).trans ((up2_k (by decide)).trans h1)), (up2_k (by decide)).trans ((up2_k (by decide)).trans up2_s), (up2_k (by decide)).trans up2_s, up2_s, (congrFun ((up2_row (by omega)).trans ((up2_row (by omega)).trans (up2_row (by omega)))) 1).trans h2, fun i hi => absurd hi (by omega)⟩
  refine x_iload_n (pc := 85) dX9_act_85 rfl rfl ?_
  refine x_iconst (pc := 86) (v := 0) dX9_act_86 (by decide) ?_
  refine x_callSN (pc := 87) (As := [.ref _, .int _, .int _, .int _, .int _]) dX9_act_87 km_X0_run ks_X0_run kn_RX9_316 rfl (by decide) ⟨Nat.le_refl _, Nat.le_refl _⟩ rfl (Nat.le_of_ble_eq_true rfl) (Nat.le_of_ble_eq_true rfl) (c_run_0_2_0 (dd := 0) (v := V 1 k) (b := k) (r := 0) (f := fun _ => 0) ⟨hG.g_ac, hG.g_ac0, hG.g_trace⟩ hA0 (by decide) (by decide) (fun J hJ gJ => ⟨rfl, rfl, ?_⟩))
  refine x_ireturn (pc := 90) dX9_act_90 ⟨_, rfl, rfl⟩ ⟨Nat.le_refl _, Nat.le_refl _⟩ ?_
  exact K J (ATC.act (l := [12, 11, 10]) hJ) (fun q p1 p2 p3 => (gJ q p1 p2 p3).trans ((up2_row p1).trans ((up2_row p1).trans (up2_row p1))))

set_option maxHeartbeats 4000000 in
set_option maxRecDepth 100000 in
theorem l_act_1_0 {T : xT} {n : Nat} {sh : Nat → Nat × Nat} {I : xI} {R : xR} {L : xL} {P : xPost} {lr nw im tr rd hu se ac M : Nat} (hG : GEO sh R lr nw im tr rd hu se ac M) {V : xV} {B : Nat} (h : FSC I nw V) (hv : VOK V B) {k : Nat} {z : Int32} (hk : k < V 8 0) (hka : V 0 k = 1) (h1 : I ac 1 = 0) (h2 : I (ac + 1) 1 = 0) (K : ∀ J : xI, ACT J ac (actL 1 0) → atF ac I J → P (n, sh, 0, 0) J R L (some (.int (actR 1 0 z (V 1 k) k))))  :  X T zX9_act 7 0 0 P 29 [(0, .ref lr), (1, .int (nI k)), (2, .int 0), (3, .int z)] [] (n, sh, 0, 0) (I) R L := by
  obtain ⟨v6, v12, v10, vb, vf, vw, vm, vta, vte, vod, vrg, vdi⟩ := id hv
  have e1 := hG.g_e_nw
  have e2 := hG.g_e_ac
  refine x_aload_n (pc := 29) dX9_act_29 rfl rfl ?_
  refine x_getr (pc := 30) dX9_act_30 kf_RX9_62 hG.g_x rfl hG.g_f9 ?_
  refine x_aload_n (pc := 33) dX9_act_33 rfl rfl ?_
  refine x_getr (pc := 34) dX9_act_34 kf_RX9_12 hG.g_x rfl hG.g_f0 ?_
  refine x_getr (pc := 37) dX9_act_37 kf_RX9_105 hG.g_nw.1 rfl hG.g_nw.2.2.2.1 ?_
  refine x_iload_n (pc := 40) dX9_act_40 rfl rfl ?_
  refine x_callV (pc := 41) (As := [.int _]) dX9_act_41 km_X5_at kv_X5_at kl_RX9_109 hG.g_nw.2.2.2.2.2.2.2.2.2.2.2.1.1 rfl rfl (by decide) ⟨Nat.le_refl _, Nat.le_refl _⟩ rfl (Nat.le_of_ble_eq_true rfl) (Nat.le_of_ble_eq_true rfl) (c_at (hG.g_nw.2.2.2.2.2.2.2.2.2.2.2.1) (⟨rfl, rfl, ?_⟩))
  rw [show I (nw + 1) 1 = nI (V 8 0) from (h.row 0 (by decide)).1, rAt_in (m := V 8 0) hk v6 (by decide), show I (nw + 2) k = nI (V 0 k) from (h.row 0 (by decide)).2 k hk]
  rw [hka, show nI 1 = (1 : Int32) from rfl]
  refine x_put (pc := 44) dX9_act_44 kf_RX9_309 hG.g_ac rfl (Or.inl kb_0_2) ?_
  refine x_aload_n (pc := 47) dX9_act_47 rfl rfl ?_
  refine x_getr (pc := 48) dX9_act_48 kf_RX9_62 hG.g_x rfl hG.g_f9 ?_
  refine x_aload_n (pc := 51) dX9_act_51 rfl rfl ?_
  refine x_getr (pc := 52) dX9_act_52 kf_RX9_12 hG.g_x rfl hG.g_f0 ?_
  refine x_getr (pc := 55) dX9_act_55 kf_RX9_115 hG.g_nw.1 rfl hG.g_nw.2.2.2.2.1 ?_
  refine x_iload_n (pc := 58) dX9_act_58 rfl rfl ?_
  refine x_callV (pc := 59) (As := [.int _]) dX9_act_59 km_X5_at kv_X5_at kl_RX9_109 hG.g_nw.2.2.2.2.2.2.2.2.2.2.2.2.1.1 rfl rfl (by decide) ⟨Nat.le_refl _, Nat.le_refl _⟩ rfl (Nat.le_of_ble_eq_true rfl) (Nat.le_of_ble_eq_true rfl) (c_at (hG.g_nw.2.2.2.2.2.2.2.2.2.2.2.2.1) (⟨rfl, rfl, ?_⟩))
  rw [up2_row (show nw + 3 ≠ ac by omega), up2_row (show nw + 4 ≠ ac by omega)]
  rw [show I (nw + 3) 1 = nI (V 8 0) from (h.row 1 (by decide)).1, rAt_in (m := V 8 0) hk v6 (by decide), show I (nw + 4) k = nI (V 1 k) from (h.row 1 (by decide)).2 k hk]
  refine x_put (pc := 62) dX9_act_62 kf_RX9_311 hG.g_ac rfl (Or.inl kb_0_3) ?_
  refine x_aload_n (pc := 65) dX9_act_65 rfl rfl ?_
  refine x_getr (pc := 66) dX9_act_66 kf_RX9_62 hG.g_x rfl hG.g_f9 ?_
  refine x_iload_n (pc := 69) dX9_act_69 rfl rfl ?_
  refine x_put (pc := 70) dX9_act_70 kf_RX9_313 hG.g_ac rfl (Or.inl kb_0_4) ?_
  refine x_aload_n (pc := 73) dX9_act_73 rfl rfl ?_
  refine x_getr (pc := 74) dX9_act_74 kf_RX9_62 hG.g_x rfl hG.g_f9 ?_
  refine x_iload_n (pc := 77) dX9_act_77 rfl rfl ?_
  refine x_aload_n (pc := 78) dX9_act_78 rfl rfl ?_
  refine x_getr (pc := 79) dX9_act_79 kf_RX9_62 hG.g_x rfl hG.g_f9 ?_
  refine x_get (pc := 82) dX9_act_82 kf_RX9_309 hG.g_ac rfl ?_
  rw [show up2 (up2 (up2 I ac 2 1) ac 3 (nI (V 1 k))) ac 4 (nI k) ac 2 = 1 from (up2_k (by decide)).trans ((up2_k (by decide)).trans up2_s)]
  have hA0 : ATC (up2 (up2 (up2 I ac 2 1) ac 3 (nI (V 1 k))) ac 4 (nI k)) ac 1 (V 1 k) k 0 (fun _ => 0) := ⟨(up2_k (by decide)).trans ((up2_k (by decide)).trans ((up2_k (by decide)).trans h1)), (up2_k (by decide)).trans ((up2_k (by decide)).trans up2_s), (up2_k (by decide)).trans up2_s, up2_s, (congrFun ((up2_row (by omega)).trans ((up2_row (by omega)).trans (up2_row (by omega)))) 1).trans h2, fun i hi => absurd hi (by omega)⟩
  refine x_iload_n (pc := 85) dX9_act_85 rfl rfl ?_
  refine x_iconst (pc := 86) (v := 0) dX9_act_86 (by decide) ?_
  refine x_callSN (pc := 87) (As := [.ref _, .int _, .int _, .int _, .int _]) dX9_act_87 km_X0_run ks_X0_run kn_RX9_316 rfl (by decide) ⟨Nat.le_refl _, Nat.le_refl _⟩ rfl (Nat.le_of_ble_eq_true rfl) (Nat.le_of_ble_eq_true rfl) (c_run_1_0_1 (dd := 0) (v := V 1 k) (b := k) (r := 0) (f := fun _ => 0) ⟨hG.g_ac, hG.g_ac0, hG.g_trace⟩ hA0 (by decide) (by decide) (fun J hJ gJ => ⟨rfl, rfl, ?_⟩))
  refine x_ireturn (pc := 90) dX9_act_90 ⟨_, rfl, rfl⟩ ⟨Nat.le_refl _, Nat.le_refl _⟩ ?_
  exact K J (ATC.act (l := [10]) hJ) (fun q p1 p2 p3 => (gJ q p1 p2 p3).trans ((up2_row p1).trans ((up2_row p1).trans (up2_row p1))))

set_option maxHeartbeats 4000000 in
set_option maxRecDepth 100000 in
theorem l_act_1_1 {T : xT} {n : Nat} {sh : Nat → Nat × Nat} {I : xI} {R : xR} {L : xL} {P : xPost} {lr nw im tr rd hu se ac M : Nat} (hG : GEO sh R lr nw im tr rd hu se ac M) {V : xV} {B : Nat} (h : FSC I nw V) (hv : VOK V B) {k : Nat} {z : Int32} (hk : k < V 8 0) (hka : V 0 k = 1) (h1 : I ac 1 = 0) (h2 : I (ac + 1) 1 = 0) (K : ∀ J : xI, ACT J ac (actL 1 1) → atF ac I J → P (n, sh, 0, 0) J R L (some (.int (actR 1 1 z (V 1 k) k))))  :  X T zX9_act 7 0 0 P 29 [(0, .ref lr), (1, .int (nI k)), (2, .int 1), (3, .int z)] [] (n, sh, 0, 0) (I) R L := by
  obtain ⟨v6, v12, v10, vb, vf, vw, vm, vta, vte, vod, vrg, vdi⟩ := id hv
  have e1 := hG.g_e_nw
  have e2 := hG.g_e_ac
  refine x_aload_n (pc := 29) dX9_act_29 rfl rfl ?_
  refine x_getr (pc := 30) dX9_act_30 kf_RX9_62 hG.g_x rfl hG.g_f9 ?_
  refine x_aload_n (pc := 33) dX9_act_33 rfl rfl ?_
  refine x_getr (pc := 34) dX9_act_34 kf_RX9_12 hG.g_x rfl hG.g_f0 ?_
  refine x_getr (pc := 37) dX9_act_37 kf_RX9_105 hG.g_nw.1 rfl hG.g_nw.2.2.2.1 ?_
  refine x_iload_n (pc := 40) dX9_act_40 rfl rfl ?_
  refine x_callV (pc := 41) (As := [.int _]) dX9_act_41 km_X5_at kv_X5_at kl_RX9_109 hG.g_nw.2.2.2.2.2.2.2.2.2.2.2.1.1 rfl rfl (by decide) ⟨Nat.le_refl _, Nat.le_refl _⟩ rfl (Nat.le_of_ble_eq_true rfl) (Nat.le_of_ble_eq_true rfl) (c_at (hG.g_nw.2.2.2.2.2.2.2.2.2.2.2.1) (⟨rfl, rfl, ?_⟩))
  rw [show I (nw + 1) 1 = nI (V 8 0) from (h.row 0 (by decide)).1, rAt_in (m := V 8 0) hk v6 (by decide), show I (nw + 2) k = nI (V 0 k) from (h.row 0 (by decide)).2 k hk]
  rw [hka, show nI 1 = (1 : Int32) from rfl]
  refine x_put (pc := 44) dX9_act_44 kf_RX9_309 hG.g_ac rfl (Or.inl kb_0_2) ?_
  refine x_aload_n (pc := 47) dX9_act_47 rfl rfl ?_
  refine x_getr (pc := 48) dX9_act_48 kf_RX9_62 hG.g_x rfl hG.g_f9 ?_
  refine x_aload_n (pc := 51) dX9_act_51 rfl rfl ?_
  refine x_getr (pc := 52) dX9_act_52 kf_RX9_12 hG.g_x rfl hG.g_f0 ?_
  refine x_getr (pc := 55) dX9_act_55 kf_RX9_115 hG.g_nw.1 rfl hG.g_nw.2.2.2.2.1 ?_
  refine x_iload_n (pc := 58) dX9_act_58 rfl rfl ?_
  refine x_callV (pc := 59) (As := [.int _]) dX9_act_59 km_X5_at kv_X5_at kl_RX9_109 hG.g_nw.2.2.2.2.2.2.2.2.2.2.2.2.1.1 rfl rfl (by decide) ⟨Nat.le_refl _, Nat.le_refl _⟩ rfl (Nat.le_of_ble_eq_true rfl) (Nat.le_of_ble_eq_true rfl) (c_at (hG.g_nw.2.2.2.2.2.2.2.2.2.2.2.2.1) (⟨rfl, rfl, ?_⟩))
  rw [up2_row (show nw + 3 ≠ ac by omega), up2_row (show nw + 4 ≠ ac by omega)]
  rw [show I (nw + 3) 1 = nI (V 8 0) from (h.row 1 (by decide)).1, rAt_in (m := V 8 0) hk v6 (by decide), show I (nw + 4) k = nI (V 1 k) from (h.row 1 (by decide)).2 k hk]
  refine x_put (pc := 62) dX9_act_62 kf_RX9_311 hG.g_ac rfl (Or.inl kb_0_3) ?_
  refine x_aload_n (pc := 65) dX9_act_65 rfl rfl ?_
  refine x_getr (pc := 66) dX9_act_66 kf_RX9_62 hG.g_x rfl hG.g_f9 ?_
  refine x_iload_n (pc := 69) dX9_act_69 rfl rfl ?_
  refine x_put (pc := 70) dX9_act_70 kf_RX9_313 hG.g_ac rfl (Or.inl kb_0_4) ?_
  refine x_aload_n (pc := 73) dX9_act_73 rfl rfl ?_
  refine x_getr (pc := 74) dX9_act_74 kf_RX9_62 hG.g_x rfl hG.g_f9 ?_
  refine x_iload_n (pc := 77) dX9_act_77 rfl rfl ?_
  refine x_aload_n (pc := 78) dX9_act_78 rfl rfl ?_
  refine x_getr (pc := 79) dX9_act_79 kf_RX9_62 hG.g_x rfl hG.g_f9 ?_
  refine x_get (pc := 82) dX9_act_82 kf_RX9_309 hG.g_ac rfl ?_
  rw [show up2 (up2 (up2 I ac 2 1) ac 3 (nI (V 1 k))) ac 4 (nI k) ac 2 = 1 from (up2_k (by decide)).trans ((up2_k (by decide)).trans up2_s)]
  have hA0 : ATC (up2 (up2 (up2 I ac 2 1) ac 3 (nI (V 1 k))) ac 4 (nI k)) ac 1 (V 1 k) k 0 (fun _ => 0) := ⟨(up2_k (by decide)).trans ((up2_k (by decide)).trans ((up2_k (by decide)).trans h1)), (up2_k (by decide)).trans ((up2_k (by decide)).trans up2_s), (up2_k (by decide)).trans up2_s, up2_s, (congrFun ((up2_row (by omega)).trans ((up2_row (by omega)).trans (up2_row (by omega)))) 1).trans h2, fun i hi => absurd hi (by omega)⟩
  refine x_iload_n (pc := 85) dX9_act_85 rfl rfl ?_
  refine x_iconst (pc := 86) (v := 0) dX9_act_86 (by decide) ?_
  refine x_callSN (pc := 87) (As := [.ref _, .int _, .int _, .int _, .int _]) dX9_act_87 km_X0_run ks_X0_run kn_RX9_316 rfl (by decide) ⟨Nat.le_refl _, Nat.le_refl _⟩ rfl (Nat.le_of_ble_eq_true rfl) (Nat.le_of_ble_eq_true rfl) (c_run_1_1_1 (dd := 0) (v := V 1 k) (b := k) (r := 0) (f := fun _ => 0) ⟨hG.g_ac, hG.g_ac0, hG.g_trace⟩ hA0 (by decide) (by decide) (fun J hJ gJ => ⟨rfl, rfl, ?_⟩))
  refine x_ireturn (pc := 90) dX9_act_90 ⟨_, rfl, rfl⟩ ⟨Nat.le_refl _, Nat.le_refl _⟩ ?_
  exact K J (ATC.act (l := [20, 11, 10]) hJ) (fun q p1 p2 p3 => (gJ q p1 p2 p3).trans ((up2_row p1).trans ((up2_row p1).trans (up2_row p1))))

set_option maxHeartbeats 4000000 in
set_option maxRecDepth 100000 in
theorem l_act_1_2 {T : xT} {n : Nat} {sh : Nat → Nat × Nat} {I : xI} {R : xR} {L : xL} {P : xPost} {lr nw im tr rd hu se ac M : Nat} (hG : GEO sh R lr nw im tr rd hu se ac M) {V : xV} {B : Nat} (h : FSC I nw V) (hv : VOK V B) {k : Nat} {z : Int32} (hk : k < V 8 0) (hka : V 0 k = 1) (h1 : I ac 1 = 0) (h2 : I (ac + 1) 1 = 0) (K : ∀ J : xI, ACT J ac (actL 1 2) → atF ac I J → P (n, sh, 0, 0) J R L (some (.int (actR 1 2 z (V 1 k) k))))  :  X T zX9_act 7 0 0 P 29 [(0, .ref lr), (1, .int (nI k)), (2, .int 2), (3, .int z)] [] (n, sh, 0, 0) (I) R L := by
  obtain ⟨v6, v12, v10, vb, vf, vw, vm, vta, vte, vod, vrg, vdi⟩ := id hv
  have e1 := hG.g_e_nw
  have e2 := hG.g_e_ac
  refine x_aload_n (pc := 29) dX9_act_29 rfl rfl ?_
  refine x_getr (pc := 30) dX9_act_30 kf_RX9_62 hG.g_x rfl hG.g_f9 ?_
  refine x_aload_n (pc := 33) dX9_act_33 rfl rfl ?_
  refine x_getr (pc := 34) dX9_act_34 kf_RX9_12 hG.g_x rfl hG.g_f0 ?_
  refine x_getr (pc := 37) dX9_act_37 kf_RX9_105 hG.g_nw.1 rfl hG.g_nw.2.2.2.1 ?_
  refine x_iload_n (pc := 40) dX9_act_40 rfl rfl ?_
  refine x_callV (pc := 41) (As := [.int _]) dX9_act_41 km_X5_at kv_X5_at kl_RX9_109 hG.g_nw.2.2.2.2.2.2.2.2.2.2.2.1.1 rfl rfl (by decide) ⟨Nat.le_refl _, Nat.le_refl _⟩ rfl (Nat.le_of_ble_eq_true rfl) (Nat.le_of_ble_eq_true rfl) (c_at (hG.g_nw.2.2.2.2.2.2.2.2.2.2.2.1) (⟨rfl, rfl, ?_⟩))
  rw [show I (nw + 1) 1 = nI (V 8 0) from (h.row 0 (by decide)).1, rAt_in (m := V 8 0) hk v6 (by decide), show I (nw + 2) k = nI (V 0 k) from (h.row 0 (by decide)).2 k hk]
  rw [hka, show nI 1 = (1 : Int32) from rfl]
  refine x_put (pc := 44) dX9_act_44 kf_RX9_309 hG.g_ac rfl (Or.inl kb_0_2) ?_
  refine x_aload_n (pc := 47) dX9_act_47 rfl rfl ?_
  refine x_getr (pc := 48) dX9_act_48 kf_RX9_62 hG.g_x rfl hG.g_f9 ?_
  refine x_aload_n (pc := 51) dX9_act_51 rfl rfl ?_
  refine x_getr (pc := 52) dX9_act_52 kf_RX9_12 hG.g_x rfl hG.g_f0 ?_
  refine x_getr (pc := 55) dX9_act_55 kf_RX9_115 hG.g_nw.1 rfl hG.g_nw.2.2.2.2.1 ?_
  refine x_iload_n (pc := 58) dX9_act_58 rfl rfl ?_
  refine x_callV (pc := 59) (As := [.int _]) dX9_act_59 km_X5_at kv_X5_at kl_RX9_109 hG.g_nw.2.2.2.2.2.2.2.2.2.2.2.2.1.1 rfl rfl (by decide) ⟨Nat.le_refl _, Nat.le_refl _⟩ rfl (Nat.le_of_ble_eq_true rfl) (Nat.le_of_ble_eq_true rfl) (c_at (hG.g_nw.2.2.2.2.2.2.2.2.2.2.2.2.1) (⟨rfl, rfl, ?_⟩))
  rw [up2_row (show nw + 3 ≠ ac by omega), up2_row (show nw + 4 ≠ ac by omega)]
  rw [show I (nw + 3) 1 = nI (V 8 0) from (h.row 1 (by decide)).1, rAt_in (m := V 8 0) hk v6 (by decide), show I (nw + 4) k = nI (V 1 k) from (h.row 1 (by decide)).2 k hk]
  refine x_put (pc := 62) dX9_act_62 kf_RX9_311 hG.g_ac rfl (Or.inl kb_0_3) ?_
  refine x_aload_n (pc := 65) dX9_act_65 rfl rfl ?_
  refine x_getr (pc := 66) dX9_act_66 kf_RX9_62 hG.g_x rfl hG.g_f9 ?_
  refine x_iload_n (pc := 69) dX9_act_69 rfl rfl ?_
  refine x_put (pc := 70) dX9_act_70 kf_RX9_313 hG.g_ac rfl (Or.inl kb_0_4) ?_
  refine x_aload_n (pc := 73) dX9_act_73 rfl rfl ?_
  refine x_getr (pc := 74) dX9_act_74 kf_RX9_62 hG.g_x rfl hG.g_f9 ?_
  refine x_iload_n (pc := 77) dX9_act_77 rfl rfl ?_
  refine x_aload_n (pc := 78) dX9_act_78 rfl rfl ?_
  refine x_getr (pc := 79) dX9_act_79 kf_RX9_62 hG.g_x rfl hG.g_f9 ?_
  refine x_get (pc := 82) dX9_act_82 kf_RX9_309 hG.g_ac rfl ?_
  rw [show up2 (up2 (up2 I ac 2 1) ac 3 (nI (V 1 k))) ac 4 (nI k) ac 2 = 1 from (up2_k (by decide)).trans ((up2_k (by decide)).trans up2_s)]
  have hA0 : ATC (up2 (up2 (up2 I ac 2 1) ac 3 (nI (V 1 k))) ac 4 (nI k)) ac 1 (V 1 k) k 0 (fun _ => 0) := ⟨(up2_k (by decide)).trans ((up2_k (by decide)).trans ((up2_k (by decide)).trans h1)), (up2_k (by decide)).trans ((up2_k (by decide)).trans up2_s), (up2_k (by decide)).trans up2_s, up2_s, (congrFun ((up2_row (by omega)).trans ((up2_row (by omega)).trans (up2_row (by omega)))) 1).trans h2, fun i hi => absurd hi (by omega)⟩
  refine x_iload_n (pc := 85) dX9_act_85 rfl rfl ?_
  refine x_iconst (pc := 86) (v := 0) dX9_act_86 (by decide) ?_
  refine x_callSN (pc := 87) (As := [.ref _, .int _, .int _, .int _, .int _]) dX9_act_87 km_X0_run ks_X0_run kn_RX9_316 rfl (by decide) ⟨Nat.le_refl _, Nat.le_refl _⟩ rfl (Nat.le_of_ble_eq_true rfl) (Nat.le_of_ble_eq_true rfl) (c_run_1_2_1 (dd := 0) (v := V 1 k) (b := k) (r := 0) (f := fun _ => 0) ⟨hG.g_ac, hG.g_ac0, hG.g_trace⟩ hA0 (by decide) (by decide) (fun J hJ gJ => ⟨rfl, rfl, ?_⟩))
  refine x_ireturn (pc := 90) dX9_act_90 ⟨_, rfl, rfl⟩ ⟨Nat.le_refl _, Nat.le_refl _⟩ ?_
  exact K J (ATC.act (l := [12, 20, 11, 10]) hJ) (fun q p1 p2 p3 => (gJ q p1 p2 p3).trans ((up2_row p1).trans ((up2_row p1).trans (up2_row p1))))

set_option maxHeartbeats 4000000 in
set_option maxRecDepth 100000 in
theorem l_act_2_0 {T : xT} {n : Nat} {sh : Nat → Nat × Nat} {I : xI} {R : xR} {L : xL} {P : xPost} {lr nw im tr rd hu se ac M : Nat} (hG : GEO sh R lr nw im tr rd hu se ac M) {V : xV} {B : Nat} (h : FSC I nw V) (hv : VOK V B) {k : Nat} {z : Int32} (hk : k < V 8 0) (hka : V 0 k = 2) (h1 : I ac 1 = 0) (h2 : I (ac + 1) 1 = 0) (K : ∀ J : xI, ACT J ac (actL 2 0) → atF ac I J → P (n, sh, 0, 0) J R L (some (.int (actR 2 0 z (V 1 k) k))))  :  X T zX9_act 7 0 0 P 29 [(0, .ref lr), (1, .int (nI k)), (2, .int 0), (3, .int z)] [] (n, sh, 0, 0) (I) R L := by
  obtain ⟨v6, v12, v10, vb, vf, vw, vm, vta, vte, vod, vrg, vdi⟩ := id hv
  have e1 := hG.g_e_nw
  have e2 := hG.g_e_ac
  refine x_aload_n (pc := 29) dX9_act_29 rfl rfl ?_
  refine x_getr (pc := 30) dX9_act_30 kf_RX9_62 hG.g_x rfl hG.g_f9 ?_
  refine x_aload_n (pc := 33) dX9_act_33 rfl rfl ?_
  refine x_getr (pc := 34) dX9_act_34 kf_RX9_12 hG.g_x rfl hG.g_f0 ?_
  refine x_getr (pc := 37) dX9_act_37 kf_RX9_105 hG.g_nw.1 rfl hG.g_nw.2.2.2.1 ?_
  refine x_iload_n (pc := 40) dX9_act_40 rfl rfl ?_
  refine x_callV (pc := 41) (As := [.int _]) dX9_act_41 km_X5_at kv_X5_at kl_RX9_109 hG.g_nw.2.2.2.2.2.2.2.2.2.2.2.1.1 rfl rfl (by decide) ⟨Nat.le_refl _, Nat.le_refl _⟩ rfl (Nat.le_of_ble_eq_true rfl) (Nat.le_of_ble_eq_true rfl) (c_at (hG.g_nw.2.2.2.2.2.2.2.2.2.2.2.1) (⟨rfl, rfl, ?_⟩))
  rw [show I (nw + 1) 1 = nI (V 8 0) from (h.row 0 (by decide)).1, rAt_in (m := V 8 0) hk v6 (by decide), show I (nw + 2) k = nI (V 0 k) from (h.row 0 (by decide)).2 k hk]
  rw [hka, show nI 2 = (2 : Int32) from rfl]
  refine x_put (pc := 44) dX9_act_44 kf_RX9_309 hG.g_ac rfl (Or.inl kb_0_2) ?_
  refine x_aload_n (pc := 47) dX9_act_47 rfl rfl ?_
  refine x_getr (pc := 48) dX9_act_48 kf_RX9_62 hG.g_x rfl hG.g_f9 ?_
  refine x_aload_n (pc := 51) dX9_act_51 rfl rfl ?_
  refine x_getr (pc := 52) dX9_act_52 kf_RX9_12 hG.g_x rfl hG.g_f0 ?_
  refine x_getr (pc := 55) dX9_act_55 kf_RX9_115 hG.g_nw.1 rfl hG.g_nw.2.2.2.2.1 ?_
  refine x_iload_n (pc := 58) dX9_act_58 rfl rfl ?_
  refine x_callV (pc := 59) (As := [.int _]) dX9_act_59 km_X5_at kv_X5_at kl_RX9_109 hG.g_nw.2.2.2.2.2.2.2.2.2.2.2.2.1.1 rfl rfl (by decide) ⟨Nat.le_refl _, Nat.le_refl _⟩ rfl (Nat.le_of_ble_eq_true rfl) (Nat.le_of_ble_eq_true rfl) (c_at (hG.g_nw.2.2.2.2.2.2.2.2.2.2.2.2.1) (⟨rfl, rfl, ?_⟩))
  rw [up2_row (show nw + 3 ≠ ac by omega), up2_row (show nw + 4 ≠ ac by omega)]
  rw [show I (nw + 3) 1 = nI (V 8 0) from (h.row 1 (by decide)).1, rAt_in (m := V 8 0) hk v6 (by decide), show I (nw + 4) k = nI (V 1 k) from (h.row 1 (by decide)).2 k hk]
  refine x_put (pc := 62) dX9_act_62 kf_RX9_311 hG.g_ac rfl (Or.inl kb_0_3) ?_
  refine x_aload_n (pc := 65) dX9_act_65 rfl rfl ?_
  refine x_getr (pc := 66) dX9_act_66 kf_RX9_62 hG.g_x rfl hG.g_f9 ?_
  refine x_iload_n (pc := 69) dX9_act_69 rfl rfl ?_
  refine x_put (pc := 70) dX9_act_70 kf_RX9_313 hG.g_ac rfl (Or.inl kb_0_4) ?_
  refine x_aload_n (pc := 73) dX9_act_73 rfl rfl ?_
  refine x_getr (pc := 74) dX9_act_74 kf_RX9_62 hG.g_x rfl hG.g_f9 ?_
  refine x_iload_n (pc := 77) dX9_act_77 rfl rfl ?_
  refine x_aload_n (pc := 78) dX9_act_78 rfl rfl ?_
  refine x_getr (pc := 79) dX9_act_79 kf_RX9_62 hG.g_x rfl hG.g_f9 ?_
  refine x_get (pc := 82) dX9_act_82 kf_RX9_309 hG.g_ac rfl ?_
  rw [show up2 (up2 (up2 I ac 2 2) ac 3 (nI (V 1 k))) ac 4 (nI k) ac 2 = 2 from (up2_k (by decide)).trans ((up2_k (by decide)).trans up2_s)]
  have hA0 : ATC (up2 (up2 (up2 I ac 2 2) ac 3 (nI (V 1 k))) ac 4 (nI k)) ac 2 (V 1 k) k 0 (fun _ => 0) := ⟨(up2_k (by decide)).trans ((up2_k (by decide)).trans ((up2_k (by decide)).trans h1)), (up2_k (by decide)).trans ((up2_k (by decide)).trans up2_s), (up2_k (by decide)).trans up2_s, up2_s, (congrFun ((up2_row (by omega)).trans ((up2_row (by omega)).trans (up2_row (by omega)))) 1).trans h2, fun i hi => absurd hi (by omega)⟩
  refine x_iload_n (pc := 85) dX9_act_85 rfl rfl ?_
  refine x_iconst (pc := 86) (v := 0) dX9_act_86 (by decide) ?_
  refine x_callSN (pc := 87) (As := [.ref _, .int _, .int _, .int _, .int _]) dX9_act_87 km_X0_run ks_X0_run kn_RX9_316 rfl (by decide) ⟨Nat.le_refl _, Nat.le_refl _⟩ rfl (Nat.le_of_ble_eq_true rfl) (Nat.le_of_ble_eq_true rfl) (c_run_2_0_2 (dd := 0) (v := V 1 k) (b := k) (r := 0) (f := fun _ => 0) ⟨hG.g_ac, hG.g_ac0, hG.g_trace⟩ hA0 (by decide) (by decide) (fun J hJ gJ => ⟨rfl, rfl, ?_⟩))
  refine x_ireturn (pc := 90) dX9_act_90 ⟨_, rfl, rfl⟩ ⟨Nat.le_refl _, Nat.le_refl _⟩ ?_
  exact K J (ATC.act (l := [30, 10]) hJ) (fun q p1 p2 p3 => (gJ q p1 p2 p3).trans ((up2_row p1).trans ((up2_row p1).trans (up2_row p1))))

set_option maxHeartbeats 4000000 in
set_option maxRecDepth 100000 in
theorem l_act_2_1 {T : xT} {n : Nat} {sh : Nat → Nat × Nat} {I : xI} {R : xR} {L : xL} {P : xPost} {lr nw im tr rd hu se ac M : Nat} (hG : GEO sh R lr nw im tr rd hu se ac M) {V : xV} {B : Nat} (h : FSC I nw V) (hv : VOK V B) {k : Nat} {z : Int32} (hk : k < V 8 0) (hka : V 0 k = 2) (h1 : I ac 1 = 0) (h2 : I (ac + 1) 1 = 0) (K : ∀ J : xI, ACT J ac (actL 2 1) → atF ac I J → P (n, sh, 0, 0) J R L (some (.int (actR 2 1 z (V 1 k) k))))  :  X T zX9_act 7 0 0 P 29 [(0, .ref lr), (1, .int (nI k)), (2, .int 1), (3, .int z)] [] (n, sh, 0, 0) (I) R L := by
  obtain ⟨v6, v12, v10, vb, vf, vw, vm, vta, vte, vod, vrg, vdi⟩ := id hv
  have e1 := hG.g_e_nw
  have e2 := hG.g_e_ac
  refine x_aload_n (pc := 29) dX9_act_29 rfl rfl ?_
  refine x_getr (pc := 30) dX9_act_30 kf_RX9_62 hG.g_x rfl hG.g_f9 ?_
  refine x_aload_n (pc := 33) dX9_act_33 rfl rfl ?_
  refine x_getr (pc := 34) dX9_act_34 kf_RX9_12 hG.g_x rfl hG.g_f0 ?_
  refine x_getr (pc := 37) dX9_act_37 kf_RX9_105 hG.g_nw.1 rfl hG.g_nw.2.2.2.1 ?_
  refine x_iload_n (pc := 40) dX9_act_40 rfl rfl ?_
  refine x_callV (pc := 41) (As := [.int _]) dX9_act_41 km_X5_at kv_X5_at kl_RX9_109 hG.g_nw.2.2.2.2.2.2.2.2.2.2.2.1.1 rfl rfl (by decide) ⟨Nat.le_refl _, Nat.le_refl _⟩ rfl (Nat.le_of_ble_eq_true rfl) (Nat.le_of_ble_eq_true rfl) (c_at (hG.g_nw.2.2.2.2.2.2.2.2.2.2.2.1) (⟨rfl, rfl, ?_⟩))
  rw [show I (nw + 1) 1 = nI (V 8 0) from (h.row 0 (by decide)).1, rAt_in (m := V 8 0) hk v6 (by decide), show I (nw + 2) k = nI (V 0 k) from (h.row 0 (by decide)).2 k hk]
  rw [hka, show nI 2 = (2 : Int32) from rfl]
  refine x_put (pc := 44) dX9_act_44 kf_RX9_309 hG.g_ac rfl (Or.inl kb_0_2) ?_
  refine x_aload_n (pc := 47) dX9_act_47 rfl rfl ?_
  refine x_getr (pc := 48) dX9_act_48 kf_RX9_62 hG.g_x rfl hG.g_f9 ?_
  refine x_aload_n (pc := 51) dX9_act_51 rfl rfl ?_
  refine x_getr (pc := 52) dX9_act_52 kf_RX9_12 hG.g_x rfl hG.g_f0 ?_
  refine x_getr (pc := 55) dX9_act_55 kf_RX9_115 hG.g_nw.1 rfl hG.g_nw.2.2.2.2.1 ?_
  refine x_iload_n (pc := 58) dX9_act_58 rfl rfl ?_
  refine x_callV (pc := 59) (As := [.int _]) dX9_act_59 km_X5_at kv_X5_at kl_RX9_109 hG.g_nw.2.2.2.2.2.2.2.2.2.2.2.2.1.1 rfl rfl (by decide) ⟨Nat.le_refl _, Nat.le_refl _⟩ rfl (Nat.le_of_ble_eq_true rfl) (Nat.le_of_ble_eq_true rfl) (c_at (hG.g_nw.2.2.2.2.2.2.2.2.2.2.2.2.1) (⟨rfl, rfl, ?_⟩))
  rw [up2_row (show nw + 3 ≠ ac by omega), up2_row (show nw + 4 ≠ ac by omega)]
  rw [show I (nw + 3) 1 = nI (V 8 0) from (h.row 1 (by decide)).1, rAt_in (m := V 8 0) hk v6 (by decide), show I (nw + 4) k = nI (V 1 k) from (h.row 1 (by decide)).2 k hk]
  refine x_put (pc := 62) dX9_act_62 kf_RX9_311 hG.g_ac rfl (Or.inl kb_0_3) ?_
  refine x_aload_n (pc := 65) dX9_act_65 rfl rfl ?_
  refine x_getr (pc := 66) dX9_act_66 kf_RX9_62 hG.g_x rfl hG.g_f9 ?_
  refine x_iload_n (pc := 69) dX9_act_69 rfl rfl ?_
  refine x_put (pc := 70) dX9_act_70 kf_RX9_313 hG.g_ac rfl (Or.inl kb_0_4) ?_
  refine x_aload_n (pc := 73) dX9_act_73 rfl rfl ?_
  refine x_getr (pc := 74) dX9_act_74 kf_RX9_62 hG.g_x rfl hG.g_f9 ?_
  refine x_iload_n (pc := 77) dX9_act_77 rfl rfl ?_
  refine x_aload_n (pc := 78) dX9_act_78 rfl rfl ?_
  refine x_getr (pc := 79) dX9_act_79 kf_RX9_62 hG.g_x rfl hG.g_f9 ?_
  refine x_get (pc := 82) dX9_act_82 kf_RX9_309 hG.g_ac rfl ?_
  rw [show up2 (up2 (up2 I ac 2 2) ac 3 (nI (V 1 k))) ac 4 (nI k) ac 2 = 2 from (up2_k (by decide)).trans ((up2_k (by decide)).trans up2_s)]
  have hA0 : ATC (up2 (up2 (up2 I ac 2 2) ac 3 (nI (V 1 k))) ac 4 (nI k)) ac 2 (V 1 k) k 0 (fun _ => 0) := ⟨(up2_k (by decide)).trans ((up2_k (by decide)).trans ((up2_k (by decide)).trans h1)), (up2_k (by decide)).trans ((up2_k (by decide)).trans up2_s), (up2_k (by decide)).trans up2_s, up2_s, (congrFun ((up2_row (by omega)).trans ((up2_row (by omega)).trans (up2_row (by omega)))) 1).trans h2, fun i hi => absurd hi (by omega)⟩
  refine x_iload_n (pc := 85) dX9_act_85 rfl rfl ?_
  refine x_iconst (pc := 86) (v := 0) dX9_act_86 (by decide) ?_
  refine x_callSN (pc := 87) (As := [.ref _, .int _, .int _, .int _, .int _]) dX9_act_87 km_X0_run ks_X0_run kn_RX9_316 rfl (by decide) ⟨Nat.le_refl _, Nat.le_refl _⟩ rfl (Nat.le_of_ble_eq_true rfl) (Nat.le_of_ble_eq_true rfl) (c_run_2_1_2 (dd := 0) (v := V 1 k) (b := k) (r := 0) (f := fun _ => 0) ⟨hG.g_ac, hG.g_ac0, hG.g_trace⟩ hA0 (by decide) (by decide) (fun J hJ gJ => ⟨rfl, rfl, ?_⟩))
  refine x_ireturn (pc := 90) dX9_act_90 ⟨_, rfl, rfl⟩ ⟨Nat.le_refl _, Nat.le_refl _⟩ ?_
  exact K J (ATC.act (l := [11, 30, 10]) hJ) (fun q p1 p2 p3 => (gJ q p1 p2 p3).trans ((up2_row p1).trans ((up2_row p1).trans (up2_row p1))))

set_option maxHeartbeats 4000000 in
set_option maxRecDepth 100000 in
theorem l_act_2_2 {T : xT} {n : Nat} {sh : Nat → Nat × Nat} {I : xI} {R : xR} {L : xL} {P : xPost} {lr nw im tr rd hu se ac M : Nat} (hG : GEO sh R lr nw im tr rd hu se ac M) {V : xV} {B : Nat} (h : FSC I nw V) (hv : VOK V B) {k : Nat} {z : Int32} (hk : k < V 8 0) (hka : V 0 k = 2) (h1 : I ac 1 = 0) (h2 : I (ac + 1) 1 = 0) (K : ∀ J : xI, ACT J ac (actL 2 2) → atF ac I J → P (n, sh, 0, 0) J R L (some (.int (actR 2 2 z (V 1 k) k))))  :  X T zX9_act 7 0 0 P 29 [(0, .ref lr), (1, .int (nI k)), (2, .int 2), (3, .int z)] [] (n, sh, 0, 0) (I) R L := by
  obtain ⟨v6, v12, v10, vb, vf, vw, vm, vta, vte, vod, vrg, vdi⟩ := id hv
  have e1 := hG.g_e_nw
  have e2 := hG.g_e_ac
  refine x_aload_n (pc := 29) dX9_act_29 rfl rfl ?_
  refine x_getr (pc := 30) dX9_act_30 kf_RX9_62 hG.g_x rfl hG.g_f9 ?_
  refine x_aload_n (pc := 33) dX9_act_33 rfl rfl ?_
  refine x_getr (pc := 34) dX9_act_34 kf_RX9_12 hG.g_x rfl hG.g_f0 ?_
  refine x_getr (pc := 37) dX9_act_37 kf_RX9_105 hG.g_nw.1 rfl hG.g_nw.2.2.2.1 ?_
  refine x_iload_n (pc := 40) dX9_act_40 rfl rfl ?_
  refine x_callV (pc := 41) (As := [.int _]) dX9_act_41 km_X5_at kv_X5_at kl_RX9_109 hG.g_nw.2.2.2.2.2.2.2.2.2.2.2.1.1 rfl rfl (by decide) ⟨Nat.le_refl _, Nat.le_refl _⟩ rfl (Nat.le_of_ble_eq_true rfl) (Nat.le_of_ble_eq_true rfl) (c_at (hG.g_nw.2.2.2.2.2.2.2.2.2.2.2.1) (⟨rfl, rfl, ?_⟩))
  rw [show I (nw + 1) 1 = nI (V 8 0) from (h.row 0 (by decide)).1, rAt_in (m := V 8 0) hk v6 (by decide), show I (nw + 2) k = nI (V 0 k) from (h.row 0 (by decide)).2 k hk]
  rw [hka, show nI 2 = (2 : Int32) from rfl]
  refine x_put (pc := 44) dX9_act_44 kf_RX9_309 hG.g_ac rfl (Or.inl kb_0_2) ?_
  refine x_aload_n (pc := 47) dX9_act_47 rfl rfl ?_
  refine x_getr (pc := 48) dX9_act_48 kf_RX9_62 hG.g_x rfl hG.g_f9 ?_
  refine x_aload_n (pc := 51) dX9_act_51 rfl rfl ?_
  refine x_getr (pc := 52) dX9_act_52 kf_RX9_12 hG.g_x rfl hG.g_f0 ?_
  refine x_getr (pc := 55) dX9_act_55 kf_RX9_115 hG.g_nw.1 rfl hG.g_nw.2.2.2.2.1 ?_
  refine x_iload_n (pc := 58) dX9_act_58 rfl rfl ?_
  refine x_callV (pc := 59) (As := [.int _]) dX9_act_59 km_X5_at kv_X5_at kl_RX9_109 hG.g_nw.2.2.2.2.2.2.2.2.2.2.2.2.1.1 rfl rfl (by decide) ⟨Nat.le_refl _, Nat.le_refl _⟩ rfl (Nat.le_of_ble_eq_true rfl) (Nat.le_of_ble_eq_true rfl) (c_at (hG.g_nw.2.2.2.2.2.2.2.2.2.2.2.2.1) (⟨rfl, rfl, ?_⟩))
  rw [up2_row (show nw + 3 ≠ ac by omega), up2_row (show nw + 4 ≠ ac by omega)]
  rw [show I (nw + 3) 1 = nI (V 8 0) from (h.row 1 (by decide)).1, rAt_in (m := V 8 0) hk v6 (by decide), show I (nw + 4) k = nI (V 1 k) from (h.row 1 (by decide)).2 k hk]
  refine x_put (pc := 62) dX9_act_62 kf_RX9_311 hG.g_ac rfl (Or.inl kb_0_3) ?_
  refine x_aload_n (pc := 65) dX9_act_65 rfl rfl ?_
  refine x_getr (pc := 66) dX9_act_66 kf_RX9_62 hG.g_x rfl hG.g_f9 ?_
  refine x_iload_n (pc := 69) dX9_act_69 rfl rfl ?_
  refine x_put (pc := 70) dX9_act_70 kf_RX9_313 hG.g_ac rfl (Or.inl kb_0_4) ?_
  refine x_aload_n (pc := 73) dX9_act_73 rfl rfl ?_
  refine x_getr (pc := 74) dX9_act_74 kf_RX9_62 hG.g_x rfl hG.g_f9 ?_
  refine x_iload_n (pc := 77) dX9_act_77 rfl rfl ?_
  refine x_aload_n (pc := 78) dX9_act_78 rfl rfl ?_
  refine x_getr (pc := 79) dX9_act_79 kf_RX9_62 hG.g_x rfl hG.g_f9 ?_
  refine x_get (pc := 82) dX9_act_82 kf_RX9_309 hG.g_ac rfl ?_
  rw [show up2 (up2 (up2 I ac 2 2) ac 3 (nI (V 1 k))) ac 4 (nI k) ac 2 = 2 from (up2_k (by decide)).trans ((up2_k (by decide)).trans up2_s)]
  have hA0 : ATC (up2 (up2 (up2 I ac 2 2) ac 3 (nI (V 1 k))) ac 4 (nI k)) ac 2 (V 1 k) k 0 (fun _ => 0) := ⟨(up2_k (by decide)).trans ((up2_k (by decide)).trans ((up2_k (by decide)).trans h1)), (up2_k (by decide)).trans ((up2_k (by decide)).trans up2_s), (up2_k (by decide)).trans up2_s, up2_s, (congrFun ((up2_row (by omega)).trans ((up2_row (by omega)).trans (up2_row (by omega)))) 1).trans h2, fun i hi => absurd hi (by omega)⟩
  refine x_iload_n (pc := 85) dX9_act_85 rfl rfl ?_
  refine x_iconst (pc := 86) (v := 0) dX9_act_86 (by decide) ?_
  refine x_callSN (pc := 87) (As := [.ref _, .int _, .int _, .int _, .int _]) dX9_act_87 km_X0_run ks_X0_run kn_RX9_316 rfl (by decide) ⟨Nat.le_refl _, Nat.le_refl _⟩ rfl (Nat.le_of_ble_eq_true rfl) (Nat.le_of_ble_eq_true rfl) (c_run_2_2_2 (dd := 0) (v := V 1 k) (b := k) (r := 0) (f := fun _ => 0) ⟨hG.g_ac, hG.g_ac0, hG.g_trace⟩ hA0 (by decide) (by decide) (fun J hJ gJ => ⟨rfl, rfl, ?_⟩))
  refine x_ireturn (pc := 90) dX9_act_90 ⟨_, rfl, rfl⟩ ⟨Nat.le_refl _, Nat.le_refl _⟩ ?_
  exact K J (ATC.act (l := [12, 11, 30, 10]) hJ) (fun q p1 p2 p3 => (gJ q p1 p2 p3).trans ((up2_row p1).trans ((up2_row p1).trans (up2_row p1))))

set_option maxHeartbeats 4000000 in
set_option maxRecDepth 100000 in
theorem l_act_3_0 {T : xT} {n : Nat} {sh : Nat → Nat × Nat} {I : xI} {R : xR} {L : xL} {P : xPost} {lr nw im tr rd hu se ac M : Nat} (hG : GEO sh R lr nw im tr rd hu se ac M) {V : xV} {B : Nat} (h : FSC I nw V) (hv : VOK V B) {k : Nat} {z : Int32} (hk : k < V 8 0) (hka : V 0 k = 3) (h1 : I ac 1 = 0) (h2 : I (ac + 1) 1 = 0) (K : ∀ J : xI, ACT J ac (actL 3 0) → atF ac I J → P (n, sh, 0, 0) J R L (some (.int (actR 3 0 z (V 1 k) k))))  :  X T zX9_act 7 0 0 P 29 [(0, .ref lr), (1, .int (nI k)), (2, .int 0), (3, .int z)] [] (n, sh, 0, 0) (I) R L := by
  obtain ⟨v6, v12, v10, vb, vf, vw, vm, vta, vte, vod, vrg, vdi⟩ := id hv
  have e1 := hG.g_e_nw
  have e2 := hG.g_e_ac
  refine x_aload_n (pc := 29) dX9_act_29 rfl rfl ?_
  refine x_getr (pc := 30) dX9_act_30 kf_RX9_62 hG.g_x rfl hG.g_f9 ?_
  refine x_aload_n (pc := 33) dX9_act_33 rfl rfl ?_
  refine x_getr (pc := 34) dX9_act_34 kf_RX9_12 hG.g_x rfl hG.g_f0 ?_
  refine x_getr (pc := 37) dX9_act_37 kf_RX9_105 hG.g_nw.1 rfl hG.g_nw.2.2.2.1 ?_
  refine x_iload_n (pc := 40) dX9_act_40 rfl rfl ?_
  refine x_callV (pc := 41) (As := [.int _]) dX9_act_41 km_X5_at kv_X5_at kl_RX9_109 hG.g_nw.2.2.2.2.2.2.2.2.2.2.2.1.1 rfl rfl (by decide) ⟨Nat.le_refl _, Nat.le_refl _⟩ rfl (Nat.le_of_ble_eq_true rfl) (Nat.le_of_ble_eq_true rfl) (c_at (hG.g_nw.2.2.2.2.2.2.2.2.2.2.2.1) (⟨rfl, rfl, ?_⟩))
  rw [show I (nw + 1) 1 = nI (V 8 0) from (h.row 0 (by decide)).1, rAt_in (m := V 8 0) hk v6 (by decide), show I (nw + 2) k = nI (V 0 k) from (h.row 0 (by decide)).2 k hk]
  rw [hka, show nI 3 = (3 : Int32) from rfl]
  refine x_put (pc := 44) dX9_act_44 kf_RX9_309 hG.g_ac rfl (Or.inl kb_0_2) ?_
  refine x_aload_n (pc := 47) dX9_act_47 rfl rfl ?_
  refine x_getr (pc := 48) dX9_act_48 kf_RX9_62 hG.g_x rfl hG.g_f9 ?_
  refine x_aload_n (pc := 51) dX9_act_51 rfl rfl ?_
  refine x_getr (pc := 52) dX9_act_52 kf_RX9_12 hG.g_x rfl hG.g_f0 ?_
  refine x_getr (pc := 55) dX9_act_55 kf_RX9_115 hG.g_nw.1 rfl hG.g_nw.2.2.2.2.1 ?_
  refine x_iload_n (pc := 58) dX9_act_58 rfl rfl ?_
  refine x_callV (pc := 59) (As := [.int _]) dX9_act_59 km_X5_at kv_X5_at kl_RX9_109 hG.g_nw.2.2.2.2.2.2.2.2.2.2.2.2.1.1 rfl rfl (by decide) ⟨Nat.le_refl _, Nat.le_refl _⟩ rfl (Nat.le_of_ble_eq_true rfl) (Nat.le_of_ble_eq_true rfl) (c_at (hG.g_nw.2.2.2.2.2.2.2.2.2.2.2.2.1) (⟨rfl, rfl, ?_⟩))
  rw [up2_row (show nw + 3 ≠ ac by omega), up2_row (show nw + 4 ≠ ac by omega)]
  rw [show I (nw + 3) 1 = nI (V 8 0) from (h.row 1 (by decide)).1, rAt_in (m := V 8 0) hk v6 (by decide), show I (nw + 4) k = nI (V 1 k) from (h.row 1 (by decide)).2 k hk]
  refine x_put (pc := 62) dX9_act_62 kf_RX9_311 hG.g_ac rfl (Or.inl kb_0_3) ?_
  refine x_aload_n (pc := 65) dX9_act_65 rfl rfl ?_
  refine x_getr (pc := 66) dX9_act_66 kf_RX9_62 hG.g_x rfl hG.g_f9 ?_
  refine x_iload_n (pc := 69) dX9_act_69 rfl rfl ?_
  refine x_put (pc := 70) dX9_act_70 kf_RX9_313 hG.g_ac rfl (Or.inl kb_0_4) ?_
  refine x_aload_n (pc := 73) dX9_act_73 rfl rfl ?_
  refine x_getr (pc := 74) dX9_act_74 kf_RX9_62 hG.g_x rfl hG.g_f9 ?_
  refine x_iload_n (pc := 77) dX9_act_77 rfl rfl ?_
  refine x_aload_n (pc := 78) dX9_act_78 rfl rfl ?_
  refine x_getr (pc := 79) dX9_act_79 kf_RX9_62 hG.g_x rfl hG.g_f9 ?_
  refine x_get (pc := 82) dX9_act_82 kf_RX9_309 hG.g_ac rfl ?_
  rw [show up2 (up2 (up2 I ac 2 3) ac 3 (nI (V 1 k))) ac 4 (nI k) ac 2 = 3 from (up2_k (by decide)).trans ((up2_k (by decide)).trans up2_s)]
  have hA0 : ATC (up2 (up2 (up2 I ac 2 3) ac 3 (nI (V 1 k))) ac 4 (nI k)) ac 3 (V 1 k) k 0 (fun _ => 0) := ⟨(up2_k (by decide)).trans ((up2_k (by decide)).trans ((up2_k (by decide)).trans h1)), (up2_k (by decide)).trans ((up2_k (by decide)).trans up2_s), (up2_k (by decide)).trans up2_s, up2_s, (congrFun ((up2_row (by omega)).trans ((up2_row (by omega)).trans (up2_row (by omega)))) 1).trans h2, fun i hi => absurd hi (by omega)⟩
  refine x_iload_n (pc := 85) dX9_act_85 rfl rfl ?_
  refine x_iconst (pc := 86) (v := 0) dX9_act_86 (by decide) ?_
  refine x_callSN (pc := 87) (As := [.ref _, .int _, .int _, .int _, .int _]) dX9_act_87 km_X0_run ks_X0_run kn_RX9_316 rfl (by decide) ⟨Nat.le_refl _, Nat.le_refl _⟩ rfl (Nat.le_of_ble_eq_true rfl) (Nat.le_of_ble_eq_true rfl) (c_run_3_0_3 (dd := 0) (v := V 1 k) (b := k) (r := 0) (f := fun _ => 0) ⟨hG.g_ac, hG.g_ac0, hG.g_trace⟩ hA0 (by decide) (by decide) (fun J hJ gJ => ⟨rfl, rfl, ?_⟩))
  refine x_ireturn (pc := 90) dX9_act_90 ⟨_, rfl, rfl⟩ ⟨Nat.le_refl _, Nat.le_refl _⟩ ?_
  exact K J (ATC.act (l := [10]) hJ) (fun q p1 p2 p3 => (gJ q p1 p2 p3).trans ((up2_row p1).trans ((up2_row p1).trans (up2_row p1))))

set_option maxHeartbeats 4000000 in
set_option maxRecDepth 100000 in
theorem l_act_3_1 {T : xT} {n : Nat} {sh : Nat → Nat × Nat} {I : xI} {R : xR} {L : xL} {P : xPost} {lr nw im tr rd hu se ac M : Nat} (hG : GEO sh R lr nw im tr rd hu se ac M) {V : xV} {B : Nat} (h : FSC I nw V) (hv : VOK V B) {k : Nat} {z : Int32} (hk : k < V 8 0) (hka : V 0 k = 3) (h1 : I ac 1 = 0) (h2 : I (ac + 1) 1 = 0) (K : ∀ J : xI, ACT J ac (actL 3 1) → atF ac I J → P (n, sh, 0, 0) J R L (some (.int (actR 3 1 z (V 1 k) k))))  :  X T zX9_act 7 0 0 P 29 [(0, .ref lr), (1, .int (nI k)), (2, .int 1), (3, .int z)] [] (n, sh, 0, 0) (I) R L := by
  obtain ⟨v6, v12, v10, vb, vf, vw, vm, vta, vte, vod, vrg, vdi⟩ := id hv
  have e1 := hG.g_e_nw
  have e2 := hG.g_e_ac
  refine x_aload_n (pc := 29) dX9_act_29 rfl rfl ?_
  refine x_getr (pc := 30) dX9_act_30 kf_RX9_62 hG.g_x rfl hG.g_f9 ?_
  refine x_aload_n (pc := 33) dX9_act_33 rfl rfl ?_
  refine x_getr (pc := 34) dX9_act_34 kf_RX9_12 hG.g_x rfl hG.g_f0 ?_
  refine x_getr (pc := 37) dX9_act_37 kf_RX9_105 hG.g_nw.1 rfl hG.g_nw.2.2.2.1 ?_
  refine x_iload_n (pc := 40) dX9_act_40 rfl rfl ?_
  refine x_callV (pc := 41) (As := [.int _]) dX9_act_41 km_X5_at kv_X5_at kl_RX9_109 hG.g_nw.2.2.2.2.2.2.2.2.2.2.2.1.1 rfl rfl (by decide) ⟨Nat.le_refl _, Nat.le_refl _⟩ rfl (Nat.le_of_ble_eq_true rfl) (Nat.le_of_ble_eq_true rfl) (c_at (hG.g_nw.2.2.2.2.2.2.2.2.2.2.2.1) (⟨rfl, rfl, ?_⟩))
  rw [show I (nw + 1) 1 = nI (V 8 0) from (h.row 0 (by decide)).1, rAt_in (m := V 8 0) hk v6 (by decide), show I (nw + 2) k = nI (V 0 k) from (h.row 0 (by decide)).2 k hk]
  rw [hka, show nI 3 = (3 : Int32) from rfl]
  refine x_put (pc := 44) dX9_act_44 kf_RX9_309 hG.g_ac rfl (Or.inl kb_0_2) ?_
  refine x_aload_n (pc := 47) dX9_act_47 rfl rfl ?_
  refine x_getr (pc := 48) dX9_act_48 kf_RX9_62 hG.g_x rfl hG.g_f9 ?_
  refine x_aload_n (pc := 51) dX9_act_51 rfl rfl ?_
  refine x_getr (pc := 52) dX9_act_52 kf_RX9_12 hG.g_x rfl hG.g_f0 ?_
  refine x_getr (pc := 55) dX9_act_55 kf_RX9_115 hG.g_nw.1 rfl hG.g_nw.2.2.2.2.1 ?_
  refine x_iload_n (pc := 58) dX9_act_58 rfl rfl ?_
  refine x_callV (pc := 59) (As := [.int _]) dX9_act_59 km_X5_at kv_X5_at kl_RX9_109 hG.g_nw.2.2.2.2.2.2.2.2.2.2.2.2.1.1 rfl rfl (by decide) ⟨Nat.le_refl _, Nat.le_refl _⟩ rfl (Nat.le_of_ble_eq_true rfl) (Nat.le_of_ble_eq_true rfl) (c_at (hG.g_nw.2.2.2.2.2.2.2.2.2.2.2.2.1) (⟨rfl, rfl, ?_⟩))
  rw [up2_row (show nw + 3 ≠ ac by omega), up2_row (show nw + 4 ≠ ac by omega)]
  rw [show I (nw + 3) 1 = nI (V 8 0) from (h.row 1 (by decide)).1, rAt_in (m := V 8 0) hk v6 (by decide), show I (nw + 4) k = nI (V 1 k) from (h.row 1 (by decide)).2 k hk]
  refine x_put (pc := 62) dX9_act_62 kf_RX9_311 hG.g_ac rfl (Or.inl kb_0_3) ?_
  refine x_aload_n (pc := 65) dX9_act_65 rfl rfl ?_
  refine x_getr (pc := 66) dX9_act_66 kf_RX9_62 hG.g_x rfl hG.g_f9 ?_
  refine x_iload_n (pc := 69) dX9_act_69 rfl rfl ?_
  refine x_put (pc := 70) dX9_act_70 kf_RX9_313 hG.g_ac rfl (Or.inl kb_0_4) ?_
  refine x_aload_n (pc := 73) dX9_act_73 rfl rfl ?_
  refine x_getr (pc := 74) dX9_act_74 kf_RX9_62 hG.g_x rfl hG.g_f9 ?_
  refine x_iload_n (pc := 77) dX9_act_77 rfl rfl ?_
  refine x_aload_n (pc := 78) dX9_act_78 rfl rfl ?_
  refine x_getr (pc := 79) dX9_act_79 kf_RX9_62 hG.g_x rfl hG.g_f9 ?_
  refine x_get (pc := 82) dX9_act_82 kf_RX9_309 hG.g_ac rfl ?_
  rw [show up2 (up2 (up2 I ac 2 3) ac 3 (nI (V 1 k))) ac 4 (nI k) ac 2 = 3 from (up2_k (by decide)).trans ((up2_k (by decide)).trans up2_s)]
  have hA0 : ATC (up2 (up2 (up2 I ac 2 3) ac 3 (nI (V 1 k))) ac 4 (nI k)) ac 3 (V 1 k) k 0 (fun _ => 0) := ⟨(up2_k (by decide)).trans ((up2_k (by decide)).trans ((up2_k (by decide)).trans h1)), (up2_k (by decide)).trans ((up2_k (by decide)).trans up2_s), (up2_k (by decide)).trans up2_s, up2_s, (congrFun ((up2_row (by omega)).trans ((up2_row (by omega)).trans (up2_row (by omega)))) 1).trans h2, fun i hi => absurd hi (by omega)⟩
  refine x_iload_n (pc := 85) dX9_act_85 rfl rfl ?_
  refine x_iconst (pc := 86) (v := 0) dX9_act_86 (by decide) ?_
  refine x_callSN (pc := 87) (As := [.ref _, .int _, .int _, .int _, .int _]) dX9_act_87 km_X0_run ks_X0_run kn_RX9_316 rfl (by decide) ⟨Nat.le_refl _, Nat.le_refl _⟩ rfl (Nat.le_of_ble_eq_true rfl) (Nat.le_of_ble_eq_true rfl) (c_run_3_1_3 (dd := 0) (v := V 1 k) (b := k) (r := 0) (f := fun _ => 0) ⟨hG.g_ac, hG.g_ac0, hG.g_trace⟩ hA0 (by decide) (by decide) (fun J hJ gJ => ⟨rfl, rfl, ?_⟩))
  refine x_ireturn (pc := 90) dX9_act_90 ⟨_, rfl, rfl⟩ ⟨Nat.le_refl _, Nat.le_refl _⟩ ?_
  exact K J (ATC.act (l := [11, 10]) hJ) (fun q p1 p2 p3 => (gJ q p1 p2 p3).trans ((up2_row p1).trans ((up2_row p1).trans (up2_row p1))))

set_option maxHeartbeats 4000000 in
set_option maxRecDepth 100000 in
theorem l_act_3_2 {T : xT} {n : Nat} {sh : Nat → Nat × Nat} {I : xI} {R : xR} {L : xL} {P : xPost} {lr nw im tr rd hu se ac M : Nat} (hG : GEO sh R lr nw im tr rd hu se ac M) {V : xV} {B : Nat} (h : FSC I nw V) (hv : VOK V B) {k : Nat} {z : Int32} (hk : k < V 8 0) (hka : V 0 k = 3) (h1 : I ac 1 = 0) (h2 : I (ac + 1) 1 = 0) (K : ∀ J : xI, ACT J ac (actL 3 2) → atF ac I J → P (n, sh, 0, 0) J R L (some (.int (actR 3 2 z (V 1 k) k))))  :  X T zX9_act 7 0 0 P 29 [(0, .ref lr), (1, .int (nI k)), (2, .int 2), (3, .int z)] [] (n, sh, 0, 0) (I) R L := by
  obtain ⟨v6, v12, v10, vb, vf, vw, vm, vta, vte, vod, vrg, vdi⟩ := id hv
  have e1 := hG.g_e_nw
  have e2 := hG.g_e_ac
  refine x_aload_n (pc := 29) dX9_act_29 rfl rfl ?_
  refine x_getr (pc := 30) dX9_act_30 kf_RX9_62 hG.g_x rfl hG.g_f9 ?_
  refine x_aload_n (pc := 33) dX9_act_33 rfl rfl ?_
  refine x_getr (pc := 34) dX9_act_34 kf_RX9_12 hG.g_x rfl hG.g_f0 ?_
  refine x_getr (pc := 37) dX9_act_37 kf_RX9_105 hG.g_nw.1 rfl hG.g_nw.2.2.2.1 ?_
  refine x_iload_n (pc := 40) dX9_act_40 rfl rfl ?_
  refine x_callV (pc := 41) (As := [.int _]) dX9_act_41 km_X5_at kv_X5_at kl_RX9_109 hG.g_nw.2.2.2.2.2.2.2.2.2.2.2.1.1 rfl rfl (by decide) ⟨Nat.le_refl _, Nat.le_refl _⟩ rfl (Nat.le_of_ble_eq_true rfl) (Nat.le_of_ble_eq_true rfl) (c_at (hG.g_nw.2.2.2.2.2.2.2.2.2.2.2.1) (⟨rfl, rfl, ?_⟩))
  rw [show I (nw + 1) 1 = nI (V 8 0) from (h.row 0 (by decide)).1, rAt_in (m := V 8 0) hk v6 (by decide), show I (nw + 2) k = nI (V 0 k) from (h.row 0 (by decide)).2 k hk]
  rw [hka, show nI 3 = (3 : Int32) from rfl]
  refine x_put (pc := 44) dX9_act_44 kf_RX9_309 hG.g_ac rfl (Or.inl kb_0_2) ?_
  refine x_aload_n (pc := 47) dX9_act_47 rfl rfl ?_
  refine x_getr (pc := 48) dX9_act_48 kf_RX9_62 hG.g_x rfl hG.g_f9 ?_
  refine x_aload_n (pc := 51) dX9_act_51 rfl rfl ?_
  refine x_getr (pc := 52) dX9_act_52 kf_RX9_12 hG.g_x rfl hG.g_f0 ?_
  refine x_getr (pc := 55) dX9_act_55 kf_RX9_115 hG.g_nw.1 rfl hG.g_nw.2.2.2.2.1 ?_
  refine x_iload_n (pc := 58) dX9_act_58 rfl rfl ?_
  refine x_callV (pc := 59) (As := [.int _]) dX9_act_59 km_X5_at kv_X5_at kl_RX9_109 hG.g_nw.2.2.2.2.2.2.2.2.2.2.2.2.1.1 rfl rfl (by decide) ⟨Nat.le_refl _, Nat.le_refl _⟩ rfl (Nat.le_of_ble_eq_true rfl) (Nat.le_of_ble_eq_true rfl) (c_at (hG.g_nw.2.2.2.2.2.2.2.2.2.2.2.2.1) (⟨rfl, rfl, ?_⟩))
  rw [up2_row (show nw + 3 ≠ ac by omega), up2_row (show nw + 4 ≠ ac by omega)]
  rw [show I (nw + 3) 1 = nI (V 8 0) from (h.row 1 (by decide)).1, rAt_in (m := V 8 0) hk v6 (by decide), show I (nw + 4) k = nI (V 1 k) from (h.row 1 (by decide)).2 k hk]
  refine x_put (pc := 62) dX9_act_62 kf_RX9_311 hG.g_ac rfl (Or.inl kb_0_3) ?_
  refine x_aload_n (pc := 65) dX9_act_65 rfl rfl ?_
  refine x_getr (pc := 66) dX9_act_66 kf_RX9_62 hG.g_x rfl hG.g_f9 ?_
  refine x_iload_n (pc := 69) dX9_act_69 rfl rfl ?_
  refine x_put (pc := 70) dX9_act_70 kf_RX9_313 hG.g_ac rfl (Or.inl kb_0_4) ?_
  refine x_aload_n (pc := 73) dX9_act_73 rfl rfl ?_
  refine x_getr (pc := 74) dX9_act_74 kf_RX9_62 hG.g_x rfl hG.g_f9 ?_
  refine x_iload_n (pc := 77) dX9_act_77 rfl rfl ?_
  refine x_aload_n (pc := 78) dX9_act_78 rfl rfl ?_
  refine x_getr (pc := 79) dX9_act_79 kf_RX9_62 hG.g_x rfl hG.g_f9 ?_
  refine x_get (pc := 82) dX9_act_82 kf_RX9_309 hG.g_ac rfl ?_
  rw [show up2 (up2 (up2 I ac 2 3) ac 3 (nI (V 1 k))) ac 4 (nI k) ac 2 = 3 from (up2_k (by decide)).trans ((up2_k (by decide)).trans up2_s)]
  have hA0 : ATC (up2 (up2 (up2 I ac 2 3) ac 3 (nI (V 1 k))) ac 4 (nI k)) ac 3 (V 1 k) k 0 (fun _ => 0) := ⟨(up2_k (by decide)).trans ((up2_k (by decide)).trans ((up2_k (by decide)).trans h1)), (up2_k (by decide)).trans ((up2_k (by decide)).trans up2_s), (up2_k (by decide)).trans up2_s, up2_s, (congrFun ((up2_row (by omega)).trans ((up2_row (by omega)).trans (up2_row (by omega)))) 1).trans h2, fun i hi => absurd hi (by omega)⟩
  refine x_iload_n (pc := 85) dX9_act_85 rfl rfl ?_
  refine x_iconst (pc := 86) (v := 0) dX9_act_86 (by decide) ?_
  refine x_callSN (pc := 87) (As := [.ref _, .int _, .int _, .int _, .int _]) dX9_act_87 km_X0_run ks_X0_run kn_RX9_316 rfl (by decide) ⟨Nat.le_refl _, Nat.le_refl _⟩ rfl (Nat.le_of_ble_eq_true rfl) (Nat.le_of_ble_eq_true rfl) (c_run_3_2_3 (dd := 0) (v := V 1 k) (b := k) (r := 0) (f := fun _ => 0) ⟨hG.g_ac, hG.g_ac0, hG.g_trace⟩ hA0 (by decide) (by decide) (fun J hJ gJ => ⟨rfl, rfl, ?_⟩))
  refine x_ireturn (pc := 90) dX9_act_90 ⟨_, rfl, rfl⟩ ⟨Nat.le_refl _, Nat.le_refl _⟩ ?_
  exact K J (ATC.act (l := [40, 12, 11, 10, 11, 10]) hJ) (fun q p1 p2 p3 => (gJ q p1 p2 p3).trans ((up2_row p1).trans ((up2_row p1).trans (up2_row p1))))

set_option maxHeartbeats 4000000 in
set_option maxRecDepth 100000 in
theorem l_act_4_0 {T : xT} {n : Nat} {sh : Nat → Nat × Nat} {I : xI} {R : xR} {L : xL} {P : xPost} {lr nw im tr rd hu se ac M : Nat} (hG : GEO sh R lr nw im tr rd hu se ac M) {V : xV} {B : Nat} (h : FSC I nw V) (hv : VOK V B) {k : Nat} {z : Int32} (hk : k < V 8 0) (hka : V 0 k = 4) (h1 : I ac 1 = 0) (h2 : I (ac + 1) 1 = 0) (K : ∀ J : xI, ACT J ac (actL 4 0) → atF ac I J → P (n, sh, 0, 0) J R L (some (.int (actR 4 0 z (V 1 k) k))))  :  X T zX9_act 7 0 0 P 29 [(0, .ref lr), (1, .int (nI k)), (2, .int 0), (3, .int z)] [] (n, sh, 0, 0) (I) R L := by
  obtain ⟨v6, v12, v10, vb, vf, vw, vm, vta, vte, vod, vrg, vdi⟩ := id hv
  have e1 := hG.g_e_nw
  have e2 := hG.g_e_ac
  refine x_aload_n (pc := 29) dX9_act_29 rfl rfl ?_
  refine x_getr (pc := 30) dX9_act_30 kf_RX9_62 hG.g_x rfl hG.g_f9 ?_
  refine x_aload_n (pc := 33) dX9_act_33 rfl rfl ?_
  refine x_getr (pc := 34) dX9_act_34 kf_RX9_12 hG.g_x rfl hG.g_f0 ?_
  refine x_getr (pc := 37) dX9_act_37 kf_RX9_105 hG.g_nw.1 rfl hG.g_nw.2.2.2.1 ?_
  refine x_iload_n (pc := 40) dX9_act_40 rfl rfl ?_
  refine x_callV (pc := 41) (As := [.int _]) dX9_act_41 km_X5_at kv_X5_at kl_RX9_109 hG.g_nw.2.2.2.2.2.2.2.2.2.2.2.1.1 rfl rfl (by decide) ⟨Nat.le_refl _, Nat.le_refl _⟩ rfl (Nat.le_of_ble_eq_true rfl) (Nat.le_of_ble_eq_true rfl) (c_at (hG.g_nw.2.2.2.2.2.2.2.2.2.2.2.1) (⟨rfl, rfl, ?_⟩))
  rw [show I (nw + 1) 1 = nI (V 8 0) from (h.row 0 (by decide)).1, rAt_in (m := V 8 0) hk v6 (by decide), show I (nw + 2) k = nI (V 0 k) from (h.row 0 (by decide)).2 k hk]
  rw [hka, show nI 4 = (4 : Int32) from rfl]
  refine x_put (pc := 44) dX9_act_44 kf_RX9_309 hG.g_ac rfl (Or.inl kb_0_2) ?_
  refine x_aload_n (pc := 47) dX9_act_47 rfl rfl ?_
  refine x_getr (pc := 48) dX9_act_48 kf_RX9_62 hG.g_x rfl hG.g_f9 ?_
  refine x_aload_n (pc := 51) dX9_act_51 rfl rfl ?_
  refine x_getr (pc := 52) dX9_act_52 kf_RX9_12 hG.g_x rfl hG.g_f0 ?_
  refine x_getr (pc := 55) dX9_act_55 kf_RX9_115 hG.g_nw.1 rfl hG.g_nw.2.2.2.2.1 ?_
  refine x_iload_n (pc := 58) dX9_act_58 rfl rfl ?_
  refine x_callV (pc := 59) (As := [.int _]) dX9_act_59 km_X5_at kv_X5_at kl_RX9_109 hG.g_nw.2.2.2.2.2.2.2.2.2.2.2.2.1.1 rfl rfl (by decide) ⟨Nat.le_refl _, Nat.le_refl _⟩ rfl (Nat.le_of_ble_eq_true rfl) (Nat.le_of_ble_eq_true rfl) (c_at (hG.g_nw.2.2.2.2.2.2.2.2.2.2.2.2.1) (⟨rfl, rfl, ?_⟩))
  rw [up2_row (show nw + 3 ≠ ac by omega), up2_row (show nw + 4 ≠ ac by omega)]
  rw [show I (nw + 3) 1 = nI (V 8 0) from (h.row 1 (by decide)).1, rAt_in (m := V 8 0) hk v6 (by decide), show I (nw + 4) k = nI (V 1 k) from (h.row 1 (by decide)).2 k hk]
  refine x_put (pc := 62) dX9_act_62 kf_RX9_311 hG.g_ac rfl (Or.inl kb_0_3) ?_
  refine x_aload_n (pc := 65) dX9_act_65 rfl rfl ?_
  refine x_getr (pc := 66) dX9_act_66 kf_RX9_62 hG.g_x rfl hG.g_f9 ?_
  refine x_iload_n (pc := 69) dX9_act_69 rfl rfl ?_
  refine x_put (pc := 70) dX9_act_70 kf_RX9_313 hG.g_ac rfl (Or.inl kb_0_4) ?_
  refine x_aload_n (pc := 73) dX9_act_73 rfl rfl ?_
  refine x_getr (pc := 74) dX9_act_74 kf_RX9_62 hG.g_x rfl hG.g_f9 ?_
  refine x_iload_n (pc := 77) dX9_act_77 rfl rfl ?_
  refine x_aload_n (pc := 78) dX9_act_78 rfl rfl ?_
  refine x_getr (pc := 79) dX9_act_79 kf_RX9_62 hG.g_x rfl hG.g_f9 ?_
  refine x_get (pc := 82) dX9_act_82 kf_RX9_309 hG.g_ac rfl ?_
  rw [show up2 (up2 (up2 I ac 2 4) ac 3 (nI (V 1 k))) ac 4 (nI k) ac 2 = 4 from (up2_k (by decide)).trans ((up2_k (by decide)).trans up2_s)]
  have hA0 : ATC (up2 (up2 (up2 I ac 2 4) ac 3 (nI (V 1 k))) ac 4 (nI k)) ac 4 (V 1 k) k 0 (fun _ => 0) := ⟨(up2_k (by decide)).trans ((up2_k (by decide)).trans ((up2_k (by decide)).trans h1)), (up2_k (by decide)).trans ((up2_k (by decide)).trans up2_s), (up2_k (by decide)).trans up2_s, up2_s, (congrFun ((up2_row (by omega)).trans ((up2_row (by omega)).trans (up2_row (by omega)))) 1).trans h2, fun i hi => absurd hi (by omega)⟩
  refine x_iload_n (pc := 85) dX9_act_85 rfl rfl ?_
  refine x_iconst (pc := 86) (v := 0) dX9_act_86 (by decide) ?_
  refine x_callSN (pc := 87) (As := [.ref _, .int _, .int _, .int _, .int _]) dX9_act_87 km_X0_run ks_X0_run kn_RX9_316 rfl (by decide) ⟨Nat.le_refl _, Nat.le_refl _⟩ rfl (Nat.le_of_ble_eq_true rfl) (Nat.le_of_ble_eq_true rfl) (c_run_4_0_4 (dd := 0) (v := V 1 k) (b := k) (r := 0) (f := fun _ => 0) ⟨hG.g_ac, hG.g_ac0, hG.g_trace⟩ hA0 (by decide) (by decide) (fun J hJ gJ => ⟨rfl, rfl, ?_⟩))
  refine x_ireturn (pc := 90) dX9_act_90 ⟨_, rfl, rfl⟩ ⟨Nat.le_refl _, Nat.le_refl _⟩ ?_
  exact K J (ATC.act (l := [50, 10]) hJ) (fun q p1 p2 p3 => (gJ q p1 p2 p3).trans ((up2_row p1).trans ((up2_row p1).trans (up2_row p1))))

set_option maxHeartbeats 4000000 in
set_option maxRecDepth 100000 in
theorem l_act_4_1 {T : xT} {n : Nat} {sh : Nat → Nat × Nat} {I : xI} {R : xR} {L : xL} {P : xPost} {lr nw im tr rd hu se ac M : Nat} (hG : GEO sh R lr nw im tr rd hu se ac M) {V : xV} {B : Nat} (h : FSC I nw V) (hv : VOK V B) {k : Nat} {z : Int32} (hk : k < V 8 0) (hka : V 0 k = 4) (h1 : I ac 1 = 0) (h2 : I (ac + 1) 1 = 0) (K : ∀ J : xI, ACT J ac (actL 4 1) → atF ac I J → P (n, sh, 0, 0) J R L (some (.int (actR 4 1 z (V 1 k) k))))  :  X T zX9_act 7 0 0 P 29 [(0, .ref lr), (1, .int (nI k)), (2, .int 1), (3, .int z)] [] (n, sh, 0, 0) (I) R L := by
  obtain ⟨v6, v12, v10, vb, vf, vw, vm, vta, vte, vod, vrg, vdi⟩ := id hv
  have e1 := hG.g_e_nw
  have e2 := hG.g_e_ac
  refine x_aload_n (pc := 29) dX9_act_29 rfl rfl ?_
  refine x_getr (pc := 30) dX9_act_30 kf_RX9_62 hG.g_x rfl hG.g_f9 ?_
  refine x_aload_n (pc := 33) dX9_act_33 rfl rfl ?_
  refine x_getr (pc := 34) dX9_act_34 kf_RX9_12 hG.g_x rfl hG.g_f0 ?_
  refine x_getr (pc := 37) dX9_act_37 kf_RX9_105 hG.g_nw.1 rfl hG.g_nw.2.2.2.1 ?_
  refine x_iload_n (pc := 40) dX9_act_40 rfl rfl ?_
  refine x_callV (pc := 41) (As := [.int _]) dX9_act_41 km_X5_at kv_X5_at kl_RX9_109 hG.g_nw.2.2.2.2.2.2.2.2.2.2.2.1.1 rfl rfl (by decide) ⟨Nat.le_refl _, Nat.le_refl _⟩ rfl (Nat.le_of_ble_eq_true rfl) (Nat.le_of_ble_eq_true rfl) (c_at (hG.g_nw.2.2.2.2.2.2.2.2.2.2.2.1) (⟨rfl, rfl, ?_⟩))
  rw [show I (nw + 1) 1 = nI (V 8 0) from (h.row 0 (by decide)).1, rAt_in (m := V 8 0) hk v6 (by decide), show I (nw + 2) k = nI (V 0 k) from (h.row 0 (by decide)).2 k hk]
  rw [hka, show nI 4 = (4 : Int32) from rfl]
  refine x_put (pc := 44) dX9_act_44 kf_RX9_309 hG.g_ac rfl (Or.inl kb_0_2) ?_
  refine x_aload_n (pc := 47) dX9_act_47 rfl rfl ?_
  refine x_getr (pc := 48) dX9_act_48 kf_RX9_62 hG.g_x rfl hG.g_f9 ?_
  refine x_aload_n (pc := 51) dX9_act_51 rfl rfl ?_
  refine x_getr (pc := 52) dX9_act_52 kf_RX9_12 hG.g_x rfl hG.g_f0 ?_
  refine x_getr (pc := 55) dX9_act_55 kf_RX9_115 hG.g_nw.1 rfl hG.g_nw.2.2.2.2.1 ?_
  refine x_iload_n (pc := 58) dX9_act_58 rfl rfl ?_
  refine x_callV (pc := 59) (As := [.int _]) dX9_act_59 km_X5_at kv_X5_at kl_RX9_109 hG.g_nw.2.2.2.2.2.2.2.2.2.2.2.2.1.1 rfl rfl (by decide) ⟨Nat.le_refl _, Nat.le_refl _⟩ rfl (Nat.le_of_ble_eq_true rfl) (Nat.le_of_ble_eq_true rfl) (c_at (hG.g_nw.2.2.2.2.2.2.2.2.2.2.2.2.1) (⟨rfl, rfl, ?_⟩))
  rw [up2_row (show nw + 3 ≠ ac by omega), up2_row (show nw + 4 ≠ ac by omega)]
  rw [show I (nw + 3) 1 = nI (V 8 0) from (h.row 1 (by decide)).1, rAt_in (m := V 8 0) hk v6 (by decide), show I (nw + 4) k = nI (V 1 k) from (h.row 1 (by decide)).2 k hk]
  refine x_put (pc := 62) dX9_act_62 kf_RX9_311 hG.g_ac rfl (Or.inl kb_0_3) ?_
  refine x_aload_n (pc := 65) dX9_act_65 rfl rfl ?_
  refine x_getr (pc := 66) dX9_act_66 kf_RX9_62 hG.g_x rfl hG.g_f9 ?_
  refine x_iload_n (pc := 69) dX9_act_69 rfl rfl ?_
  refine x_put (pc := 70) dX9_act_70 kf_RX9_313 hG.g_ac rfl (Or.inl kb_0_4) ?_
  refine x_aload_n (pc := 73) dX9_act_73 rfl rfl ?_
  refine x_getr (pc := 74) dX9_act_74 kf_RX9_62 hG.g_x rfl hG.g_f9 ?_
  refine x_iload_n (pc := 77) dX9_act_77 rfl rfl ?_
  refine x_aload_n (pc := 78) dX9_act_78 rfl rfl ?_
  refine x_getr (pc := 79) dX9_act_79 kf_RX9_62 hG.g_x rfl hG.g_f9 ?_
  refine x_get (pc := 82) dX9_act_82 kf_RX9_309 hG.g_ac rfl ?_
  rw [show up2 (up2 (up2 I ac 2 4) ac 3 (nI (V 1 k))) ac 4 (nI k) ac 2 = 4 from (up2_k (by decide)).trans ((up2_k (by decide)).trans up2_s)]
  have hA0 : ATC (up2 (up2 (up2 I ac 2 4) ac 3 (nI (V 1 k))) ac 4 (nI k)) ac 4 (V 1 k) k 0 (fun _ => 0) := ⟨(up2_k (by decide)).trans ((up2_k (by decide)).trans ((up2_k (by decide)).trans h1)), (up2_k (by decide)).trans ((up2_k (by decide)).trans up2_s), (up2_k (by decide)).trans up2_s, up2_s, (congrFun ((up2_row (by omega)).trans ((up2_row (by omega)).trans (up2_row (by omega)))) 1).trans h2, fun i hi => absurd hi (by omega)⟩
  refine x_iload_n (pc := 85) dX9_act_85 rfl rfl ?_
  refine x_iconst (pc := 86) (v := 0) dX9_act_86 (by decide) ?_
  refine x_callSN (pc := 87) (As := [.ref _, .int _, .int _, .int _, .int _]) dX9_act_87 km_X0_run ks_X0_run kn_RX9_316 rfl (by decide) ⟨Nat.le_refl _, Nat.le_refl _⟩ rfl (Nat.le_of_ble_eq_true rfl) (Nat.le_of_ble_eq_true rfl) (c_run_4_1_4 (dd := 0) (v := V 1 k) (b := k) (r := 0) (f := fun _ => 0) ⟨hG.g_ac, hG.g_ac0, hG.g_trace⟩ hA0 (by decide) (by decide) (fun J hJ gJ => ⟨rfl, rfl, ?_⟩))
  refine x_ireturn (pc := 90) dX9_act_90 ⟨_, rfl, rfl⟩ ⟨Nat.le_refl _, Nat.le_refl _⟩ ?_
  exact K J (ATC.act (l := [51, 20, 11, 50, 10]) hJ) (fun q p1 p2 p3 => (gJ q p1 p2 p3).trans ((up2_row p1).trans ((up2_row p1).trans (up2_row p1))))

set_option maxHeartbeats 4000000 in
set_option maxRecDepth 100000 in
theorem l_act_4_2 {T : xT} {n : Nat} {sh : Nat → Nat × Nat} {I : xI} {R : xR} {L : xL} {P : xPost} {lr nw im tr rd hu se ac M : Nat} (hG : GEO sh R lr nw im tr rd hu se ac M) {V : xV} {B : Nat} (h : FSC I nw V) (hv : VOK V B) {k : Nat} {z : Int32} (hk : k < V 8 0) (hka : V 0 k = 4) (h1 : I ac 1 = 0) (h2 : I (ac + 1) 1 = 0) (K : ∀ J : xI, ACT J ac (actL 4 2) → atF ac I J → P (n, sh, 0, 0) J R L (some (.int (actR 4 2 z (V 1 k) k))))  :  X T zX9_act 7 0 0 P 29 [(0, .ref lr), (1, .int (nI k)), (2, .int 2), (3, .int z)] [] (n, sh, 0, 0) (I) R L := by
  obtain ⟨v6, v12, v10, vb, vf, vw, vm, vta, vte, vod, vrg, vdi⟩ := id hv
  have e1 := hG.g_e_nw
  have e2 := hG.g_e_ac
  refine x_aload_n (pc := 29) dX9_act_29 rfl rfl ?_
  refine x_getr (pc := 30) dX9_act_30 kf_RX9_62 hG.g_x rfl hG.g_f9 ?_
  refine x_aload_n (pc := 33) dX9_act_33 rfl rfl ?_
  refine x_getr (pc := 34) dX9_act_34 kf_RX9_12 hG.g_x rfl hG.g_f0 ?_
  refine x_getr (pc := 37) dX9_act_37 kf_RX9_105 hG.g_nw.1 rfl hG.g_nw.2.2.2.1 ?_
  refine x_iload_n (pc := 40) dX9_act_40 rfl rfl ?_
  refine x_callV (pc := 41) (As := [.int _]) dX9_act_41 km_X5_at kv_X5_at kl_RX9_109 hG.g_nw.2.2.2.2.2.2.2.2.2.2.2.1.1 rfl rfl (by decide) ⟨Nat.le_refl _, Nat.le_refl _⟩ rfl (Nat.le_of_ble_eq_true rfl) (Nat.le_of_ble_eq_true rfl) (c_at (hG.g_nw.2.2.2.2.2.2.2.2.2.2.2.1) (⟨rfl, rfl, ?_⟩))
  rw [show I (nw + 1) 1 = nI (V 8 0) from (h.row 0 (by decide)).1, rAt_in (m := V 8 0) hk v6 (by decide), show I (nw + 2) k = nI (V 0 k) from (h.row 0 (by decide)).2 k hk]
  rw [hka, show nI 4 = (4 : Int32) from rfl]
  refine x_put (pc := 44) dX9_act_44 kf_RX9_309 hG.g_ac rfl (Or.inl kb_0_2) ?_
  refine x_aload_n (pc := 47) dX9_act_47 rfl rfl ?_
  refine x_getr (pc := 48) dX9_act_48 kf_RX9_62 hG.g_x rfl hG.g_f9 ?_
  refine x_aload_n (pc := 51) dX9_act_51 rfl rfl ?_
  refine x_getr (pc := 52) dX9_act_52 kf_RX9_12 hG.g_x rfl hG.g_f0 ?_
  refine x_getr (pc := 55) dX9_act_55 kf_RX9_115 hG.g_nw.1 rfl hG.g_nw.2.2.2.2.1 ?_
  refine x_iload_n (pc := 58) dX9_act_58 rfl rfl ?_
  refine x_callV (pc := 59) (As := [.int _]) dX9_act_59 km_X5_at kv_X5_at kl_RX9_109 hG.g_nw.2.2.2.2.2.2.2.2.2.2.2.2.1.1 rfl rfl (by decide) ⟨Nat.le_refl _, Nat.le_refl _⟩ rfl (Nat.le_of_ble_eq_true rfl) (Nat.le_of_ble_eq_true rfl) (c_at (hG.g_nw.2.2.2.2.2.2.2.2.2.2.2.2.1) (⟨rfl, rfl, ?_⟩))
  rw [up2_row (show nw + 3 ≠ ac by omega), up2_row (show nw + 4 ≠ ac by omega)]
  rw [show I (nw + 3) 1 = nI (V 8 0) from (h.row 1 (by decide)).1, rAt_in (m := V 8 0) hk v6 (by decide), show I (nw + 4) k = nI (V 1 k) from (h.row 1 (by decide)).2 k hk]
  refine x_put (pc := 62) dX9_act_62 kf_RX9_311 hG.g_ac rfl (Or.inl kb_0_3) ?_
  refine x_aload_n (pc := 65) dX9_act_65 rfl rfl ?_
  refine x_getr (pc := 66) dX9_act_66 kf_RX9_62 hG.g_x rfl hG.g_f9 ?_
  refine x_iload_n (pc := 69) dX9_act_69 rfl rfl ?_
  refine x_put (pc := 70) dX9_act_70 kf_RX9_313 hG.g_ac rfl (Or.inl kb_0_4) ?_
  refine x_aload_n (pc := 73) dX9_act_73 rfl rfl ?_
  refine x_getr (pc := 74) dX9_act_74 kf_RX9_62 hG.g_x rfl hG.g_f9 ?_
  refine x_iload_n (pc := 77) dX9_act_77 rfl rfl ?_
  refine x_aload_n (pc := 78) dX9_act_78 rfl rfl ?_
  refine x_getr (pc := 79) dX9_act_79 kf_RX9_62 hG.g_x rfl hG.g_f9 ?_
  refine x_get (pc := 82) dX9_act_82 kf_RX9_309 hG.g_ac rfl ?_
  rw [show up2 (up2 (up2 I ac 2 4) ac 3 (nI (V 1 k))) ac 4 (nI k) ac 2 = 4 from (up2_k (by decide)).trans ((up2_k (by decide)).trans up2_s)]
  have hA0 : ATC (up2 (up2 (up2 I ac 2 4) ac 3 (nI (V 1 k))) ac 4 (nI k)) ac 4 (V 1 k) k 0 (fun _ => 0) := ⟨(up2_k (by decide)).trans ((up2_k (by decide)).trans ((up2_k (by decide)).trans h1)), (up2_k (by decide)).trans ((up2_k (by decide)).trans up2_s), (up2_k (by decide)).trans up2_s, up2_s, (congrFun ((up2_row (by omega)).trans ((up2_row (by omega)).trans (up2_row (by omega)))) 1).trans h2, fun i hi => absurd hi (by omega)⟩
  refine x_iload_n (pc := 85) dX9_act_85 rfl rfl ?_
  refine x_iconst (pc := 86) (v := 0) dX9_act_86 (by decide) ?_
  refine x_callSN (pc := 87) (As := [.ref _, .int _, .int _, .int _, .int _]) dX9_act_87 km_X0_run ks_X0_run kn_RX9_316 rfl (by decide) ⟨Nat.le_refl _, Nat.le_refl _⟩ rfl (Nat.le_of_ble_eq_true rfl) (Nat.le_of_ble_eq_true rfl) (c_run_4_2_4 (dd := 0) (v := V 1 k) (b := k) (r := 0) (f := fun _ => 0) ⟨hG.g_ac, hG.g_ac0, hG.g_trace⟩ hA0 (by decide) (by decide) (fun J hJ gJ => ⟨rfl, rfl, ?_⟩))
  refine x_ireturn (pc := 90) dX9_act_90 ⟨_, rfl, rfl⟩ ⟨Nat.le_refl _, Nat.le_refl _⟩ ?_
  exact K J (ATC.act (l := [12, 51, 20, 11, 50, 10]) hJ) (fun q p1 p2 p3 => (gJ q p1 p2 p3).trans ((up2_row p1).trans ((up2_row p1).trans (up2_row p1))))

set_option maxHeartbeats 4000000 in
set_option maxRecDepth 100000 in
theorem l_act_5_0 {T : xT} {n : Nat} {sh : Nat → Nat × Nat} {I : xI} {R : xR} {L : xL} {P : xPost} {lr nw im tr rd hu se ac M : Nat} (hG : GEO sh R lr nw im tr rd hu se ac M) {V : xV} {B : Nat} (h : FSC I nw V) (hv : VOK V B) {k : Nat} {z : Int32} (hk : k < V 8 0) (hka : V 0 k = 5) (h1 : I ac 1 = 0) (h2 : I (ac + 1) 1 = 0) (K : ∀ J : xI, ACT J ac (actL 5 0) → atF ac I J → P (n, sh, 0, 0) J R L (some (.int (actR 5 0 z (V 1 k) k))))  :  X T zX9_act 7 0 0 P 29 [(0, .ref lr), (1, .int (nI k)), (2, .int 0), (3, .int z)] [] (n, sh, 0, 0) (I) R L := by
  obtain ⟨v6, v12, v10, vb, vf, vw, vm, vta, vte, vod, vrg, vdi⟩ := id hv
  have e1 := hG.g_e_nw
  have e2 := hG.g_e_ac
  refine x_aload_n (pc := 29) dX9_act_29 rfl rfl ?_
  refine x_getr (pc := 30) dX9_act_30 kf_RX9_62 hG.g_x rfl hG.g_f9 ?_
  refine x_aload_n (pc := 33) dX9_act_33 rfl rfl ?_
  refine x_getr (pc := 34) dX9_act_34 kf_RX9_12 hG.g_x rfl hG.g_f0 ?_
  refine x_getr (pc := 37) dX9_act_37 kf_RX9_105 hG.g_nw.1 rfl hG.g_nw.2.2.2.1 ?_
  refine x_iload_n (pc := 40) dX9_act_40 rfl rfl ?_
  refine x_callV (pc := 41) (As := [.int _]) dX9_act_41 km_X5_at kv_X5_at kl_RX9_109 hG.g_nw.2.2.2.2.2.2.2.2.2.2.2.1.1 rfl rfl (by decide) ⟨Nat.le_refl _, Nat.le_refl _⟩ rfl (Nat.le_of_ble_eq_true rfl) (Nat.le_of_ble_eq_true rfl) (c_at (hG.g_nw.2.2.2.2.2.2.2.2.2.2.2.1) (⟨rfl, rfl, ?_⟩))
  rw [show I (nw + 1) 1 = nI (V 8 0) from (h.row 0 (by decide)).1, rAt_in (m := V 8 0) hk v6 (by decide), show I (nw + 2) k = nI (V 0 k) from (h.row 0 (by decide)).2 k hk]
  rw [hka, show nI 5 = (5 : Int32) from rfl]
  refine x_put (pc := 44) dX9_act_44 kf_RX9_309 hG.g_ac rfl (Or.inl kb_0_2) ?_
  refine x_aload_n (pc := 47) dX9_act_47 rfl rfl ?_
  refine x_getr (pc := 48) dX9_act_48 kf_RX9_62 hG.g_x rfl hG.g_f9 ?_
  refine x_aload_n (pc := 51) dX9_act_51 rfl rfl ?_
  refine x_getr (pc := 52) dX9_act_52 kf_RX9_12 hG.g_x rfl hG.g_f0 ?_
  refine x_getr (pc := 55) dX9_act_55 kf_RX9_115 hG.g_nw.1 rfl hG.g_nw.2.2.2.2.1 ?_
  refine x_iload_n (pc := 58) dX9_act_58 rfl rfl ?_
  refine x_callV (pc := 59) (As := [.int _]) dX9_act_59 km_X5_at kv_X5_at kl_RX9_109 hG.g_nw.2.2.2.2.2.2.2.2.2.2.2.2.1.1 rfl rfl (by decide) ⟨Nat.le_refl _, Nat.le_refl _⟩ rfl (Nat.le_of_ble_eq_true rfl) (Nat.le_of_ble_eq_true rfl) (c_at (hG.g_nw.2.2.2.2.2.2.2.2.2.2.2.2.1) (⟨rfl, rfl, ?_⟩))
  rw [up2_row (show nw + 3 ≠ ac by omega), up2_row (show nw + 4 ≠ ac by omega)]
  rw [show I (nw + 3) 1 = nI (V 8 0) from (h.row 1 (by decide)).1, rAt_in (m := V 8 0) hk v6 (by decide), show I (nw + 4) k = nI (V 1 k) from (h.row 1 (by decide)).2 k hk]
  refine x_put (pc := 62) dX9_act_62 kf_RX9_311 hG.g_ac rfl (Or.inl kb_0_3) ?_
  refine x_aload_n (pc := 65) dX9_act_65 rfl rfl ?_
  refine x_getr (pc := 66) dX9_act_66 kf_RX9_62 hG.g_x rfl hG.g_f9 ?_
  refine x_iload_n (pc := 69) dX9_act_69 rfl rfl ?_
  refine x_put (pc := 70) dX9_act_70 kf_RX9_313 hG.g_ac rfl (Or.inl kb_0_4) ?_
  refine x_aload_n (pc := 73) dX9_act_73 rfl rfl ?_
  refine x_getr (pc := 74) dX9_act_74 kf_RX9_62 hG.g_x rfl hG.g_f9 ?_
  refine x_iload_n (pc := 77) dX9_act_77 rfl rfl ?_
  refine x_aload_n (pc := 78) dX9_act_78 rfl rfl ?_
  refine x_getr (pc := 79) dX9_act_79 kf_RX9_62 hG.g_x rfl hG.g_f9 ?_
  refine x_get (pc := 82) dX9_act_82 kf_RX9_309 hG.g_ac rfl ?_
  rw [show up2 (up2 (up2 I ac 2 5) ac 3 (nI (V 1 k))) ac 4 (nI k) ac 2 = 5 from (up2_k (by decide)).trans ((up2_k (by decide)).trans up2_s)]
  have hA0 : ATC (up2 (up2 (up2 I ac 2 5) ac 3 (nI (V 1 k))) ac 4 (nI k)) ac 5 (V 1 k) k 0 (fun _ => 0) := ⟨(up2_k (by decide)).trans ((up2_k (by decide)).trans ((up2_k (by decide)).trans h1)), (up2_k (by decide)).trans ((up2_k (by decide)).trans up2_s), (up2_k (by decide)).trans up2_s, up2_s, (congrFun ((up2_row (by omega)).trans ((up2_row (by omega)).trans (up2_row (by omega)))) 1).trans h2, fun i hi => absurd hi (by omega)⟩
  refine x_iload_n (pc := 85) dX9_act_85 rfl rfl ?_
  refine x_iconst (pc := 86) (v := 0) dX9_act_86 (by decide) ?_
  refine x_callSN (pc := 87) (As := [.ref _, .int _, .int _, .int _, .int _]) dX9_act_87 km_X0_run ks_X0_run kn_RX9_316 rfl (by decide) ⟨Nat.le_refl _, Nat.le_refl _⟩ rfl (Nat.le_of_ble_eq_true rfl) (Nat.le_of_ble_eq_true rfl) (c_run_5_0_5 (dd := 0) (v := V 1 k) (b := k) (r := 0) (f := fun _ => 0) ⟨hG.g_ac, hG.g_ac0, hG.g_trace⟩ hA0 (by decide) (by decide) (fun J hJ gJ => ⟨rfl, rfl, ?_⟩))
  refine x_ireturn (pc := 90) dX9_act_90 ⟨_, rfl, rfl⟩ ⟨Nat.le_refl _, Nat.le_refl _⟩ ?_
  exact K J (ATC.act (l := [10]) hJ) (fun q p1 p2 p3 => (gJ q p1 p2 p3).trans ((up2_row p1).trans ((up2_row p1).trans (up2_row p1))))

set_option maxHeartbeats 4000000 in
set_option maxRecDepth 100000 in
theorem l_act_5_1 {T : xT} {n : Nat} {sh : Nat → Nat × Nat} {I : xI} {R : xR} {L : xL} {P : xPost} {lr nw im tr rd hu se ac M : Nat} (hG : GEO sh R lr nw im tr rd hu se ac M) {V : xV} {B : Nat} (h : FSC I nw V) (hv : VOK V B) {k : Nat} {z : Int32} (hk : k < V 8 0) (hka : V 0 k = 5) (h1 : I ac 1 = 0) (h2 : I (ac + 1) 1 = 0) (K : ∀ J : xI, ACT J ac (actL 5 1) → atF ac I J → P (n, sh, 0, 0) J R L (some (.int (actR 5 1 z (V 1 k) k))))  :  X T zX9_act 7 0 0 P 29 [(0, .ref lr), (1, .int (nI k)), (2, .int 1), (3, .int z)] [] (n, sh, 0, 0) (I) R L := by
  obtain ⟨v6, v12, v10, vb, vf, vw, vm, vta, vte, vod, vrg, vdi⟩ := id hv
  have e1 := hG.g_e_nw
  have e2 := hG.g_e_ac
  refine x_aload_n (pc := 29) dX9_act_29 rfl rfl ?_
  refine x_getr (pc := 30) dX9_act_30 kf_RX9_62 hG.g_x rfl hG.g_f9 ?_
  refine x_aload_n (pc := 33) dX9_act_33 rfl rfl ?_
  refine x_getr (pc := 34) dX9_act_34 kf_RX9_12 hG.g_x rfl hG.g_f0 ?_
  refine x_getr (pc := 37) dX9_act_37 kf_RX9_105 hG.g_nw.1 rfl hG.g_nw.2.2.2.1 ?_
  refine x_iload_n (pc := 40) dX9_act_40 rfl rfl ?_
  refine x_callV (pc := 41) (As := [.int _]) dX9_act_41 km_X5_at kv_X5_at kl_RX9_109 hG.g_nw.2.2.2.2.2.2.2.2.2.2.2.1.1 rfl rfl (by decide) ⟨Nat.le_refl _, Nat.le_refl _⟩ rfl (Nat.le_of_ble_eq_true rfl) (Nat.le_of_ble_eq_true rfl) (c_at (hG.g_nw.2.2.2.2.2.2.2.2.2.2.2.1) (⟨rfl, rfl, ?_⟩))
  rw [show I (nw + 1) 1 = nI (V 8 0) from (h.row 0 (by decide)).1, rAt_in (m := V 8 0) hk v6 (by decide), show I (nw + 2) k = nI (V 0 k) from (h.row 0 (by decide)).2 k hk]
  rw [hka, show nI 5 = (5 : Int32) from rfl]
  refine x_put (pc := 44) dX9_act_44 kf_RX9_309 hG.g_ac rfl (Or.inl kb_0_2) ?_
  refine x_aload_n (pc := 47) dX9_act_47 rfl rfl ?_
  refine x_getr (pc := 48) dX9_act_48 kf_RX9_62 hG.g_x rfl hG.g_f9 ?_
  refine x_aload_n (pc := 51) dX9_act_51 rfl rfl ?_
  refine x_getr (pc := 52) dX9_act_52 kf_RX9_12 hG.g_x rfl hG.g_f0 ?_
  refine x_getr (pc := 55) dX9_act_55 kf_RX9_115 hG.g_nw.1 rfl hG.g_nw.2.2.2.2.1 ?_
  refine x_iload_n (pc := 58) dX9_act_58 rfl rfl ?_
  refine x_callV (pc := 59) (As := [.int _]) dX9_act_59 km_X5_at kv_X5_at kl_RX9_109 hG.g_nw.2.2.2.2.2.2.2.2.2.2.2.2.1.1 rfl rfl (by decide) ⟨Nat.le_refl _, Nat.le_refl _⟩ rfl (Nat.le_of_ble_eq_true rfl) (Nat.le_of_ble_eq_true rfl) (c_at (hG.g_nw.2.2.2.2.2.2.2.2.2.2.2.2.1) (⟨rfl, rfl, ?_⟩))
  rw [up2_row (show nw + 3 ≠ ac by omega), up2_row (show nw + 4 ≠ ac by omega)]
  rw [show I (nw + 3) 1 = nI (V 8 0) from (h.row 1 (by decide)).1, rAt_in (m := V 8 0) hk v6 (by decide), show I (nw + 4) k = nI (V 1 k) from (h.row 1 (by decide)).2 k hk]
  refine x_put (pc := 62) dX9_act_62 kf_RX9_311 hG.g_ac rfl (Or.inl kb_0_3) ?_
  refine x_aload_n (pc := 65) dX9_act_65 rfl rfl ?_
  refine x_getr (pc := 66) dX9_act_66 kf_RX9_62 hG.g_x rfl hG.g_f9 ?_
  refine x_iload_n (pc := 69) dX9_act_69 rfl rfl ?_
  refine x_put (pc := 70) dX9_act_70 kf_RX9_313 hG.g_ac rfl (Or.inl kb_0_4) ?_
  refine x_aload_n (pc := 73) dX9_act_73 rfl rfl ?_
  refine x_getr (pc := 74) dX9_act_74 kf_RX9_62 hG.g_x rfl hG.g_f9 ?_
  refine x_iload_n (pc := 77) dX9_act_77 rfl rfl ?_
  refine x_aload_n (pc := 78) dX9_act_78 rfl rfl ?_
  refine x_getr (pc := 79) dX9_act_79 kf_RX9_62 hG.g_x rfl hG.g_f9 ?_
  refine x_get (pc := 82) dX9_act_82 kf_RX9_309 hG.g_ac rfl ?_
  rw [show up2 (up2 (up2 I ac 2 5) ac 3 (nI (V 1 k))) ac 4 (nI k) ac 2 = 5 from (up2_k (by decide)).trans ((up2_k (by decide)).trans up2_s)]
  have hA0 : ATC (up2 (up2 (up2 I ac 2 5) ac 3 (nI (V 1 k))) ac 4 (nI k)) ac 5 (V 1 k) k 0 (fun _ => 0) := ⟨(up2_k (by decide)).trans ((up2_k (by decide)).trans ((up2_k (by decide)).trans h1)), (up2_k (by decide)).trans ((up2_k (by decide)).trans up2_s), (up2_k (by decide)).trans up2_s, up2_s, (congrFun ((up2_row (by omega)).trans ((up2_row (by omega)).trans (up2_row (by omega)))) 1).trans h2, fun i hi => absurd hi (by omega)⟩
  refine x_iload_n (pc := 85) dX9_act_85 rfl rfl ?_
  refine x_iconst (pc := 86) (v := 0) dX9_act_86 (by decide) ?_
  refine x_callSN (pc := 87) (As := [.ref _, .int _, .int _, .int _, .int _]) dX9_act_87 km_X0_run ks_X0_run kn_RX9_316 rfl (by decide) ⟨Nat.le_refl _, Nat.le_refl _⟩ rfl (Nat.le_of_ble_eq_true rfl) (Nat.le_of_ble_eq_true rfl) (c_run_5_1_5 (dd := 0) (v := V 1 k) (b := k) (r := 0) (f := fun _ => 0) ⟨hG.g_ac, hG.g_ac0, hG.g_trace⟩ hA0 (by decide) (by decide) (fun J hJ gJ => ⟨rfl, rfl, ?_⟩))
  refine x_ireturn (pc := 90) dX9_act_90 ⟨_, rfl, rfl⟩ ⟨Nat.le_refl _, Nat.le_refl _⟩ ?_
  exact K J (ATC.act (l := [20, 11, 10]) hJ) (fun q p1 p2 p3 => (gJ q p1 p2 p3).trans ((up2_row p1).trans ((up2_row p1).trans (up2_row p1))))

set_option maxHeartbeats 4000000 in
set_option maxRecDepth 100000 in
theorem l_act_5_2 {T : xT} {n : Nat} {sh : Nat → Nat × Nat} {I : xI} {R : xR} {L : xL} {P : xPost} {lr nw im tr rd hu se ac M : Nat} (hG : GEO sh R lr nw im tr rd hu se ac M) {V : xV} {B : Nat} (h : FSC I nw V) (hv : VOK V B) {k : Nat} {z : Int32} (hk : k < V 8 0) (hka : V 0 k = 5) (h1 : I ac 1 = 0) (h2 : I (ac + 1) 1 = 0) (K : ∀ J : xI, ACT J ac (actL 5 2) → atF ac I J → P (n, sh, 0, 0) J R L (some (.int (actR 5 2 z (V 1 k) k))))  :  X T zX9_act 7 0 0 P 29 [(0, .ref lr), (1, .int (nI k)), (2, .int 2), (3, .int z)] [] (n, sh, 0, 0) (I) R L := by
  obtain ⟨v6, v12, v10, vb, vf, vw, vm, vta, vte, vod, vrg, vdi⟩ := id hv
  have e1 := hG.g_e_nw
  have e2 := hG.g_e_ac
  refine x_aload_n (pc := 29) dX9_act_29 rfl rfl ?_
  refine x_getr (pc := 30) dX9_act_30 kf_RX9_62 hG.g_x rfl hG.g_f9 ?_
  refine x_aload_n (pc := 33) dX9_act_33 rfl rfl ?_
  refine x_getr (pc := 34) dX9_act_34 kf_RX9_12 hG.g_x rfl hG.g_f0 ?_
  refine x_getr (pc := 37) dX9_act_37 kf_RX9_105 hG.g_nw.1 rfl hG.g_nw.2.2.2.1 ?_
  refine x_iload_n (pc := 40) dX9_act_40 rfl rfl ?_
  refine x_callV (pc := 41) (As := [.int _]) dX9_act_41 km_X5_at kv_X5_at kl_RX9_109 hG.g_nw.2.2.2.2.2.2.2.2.2.2.2.1.1 rfl rfl (by decide) ⟨Nat.le_refl _, Nat.le_refl _⟩ rfl (Nat.le_of_ble_eq_true rfl) (Nat.le_of_ble_eq_true rfl) (c_at (hG.g_nw.2.2.2.2.2.2.2.2.2.2.2.1) (⟨rfl, rfl, ?_⟩))
  rw [show I (nw + 1) 1 = nI (V 8 0) from (h.row 0 (by decide)).1, rAt_in (m := V 8 0) hk v6 (by decide), show I (nw + 2) k = nI (V 0 k) from (h.row 0 (by decide)).2 k hk]
  rw [hka, show nI 5 = (5 : Int32) from rfl]
  refine x_put (pc := 44) dX9_act_44 kf_RX9_309 hG.g_ac rfl (Or.inl kb_0_2) ?_
  refine x_aload_n (pc := 47) dX9_act_47 rfl rfl ?_
  refine x_getr (pc := 48) dX9_act_48 kf_RX9_62 hG.g_x rfl hG.g_f9 ?_
  refine x_aload_n (pc := 51) dX9_act_51 rfl rfl ?_
  refine x_getr (pc := 52) dX9_act_52 kf_RX9_12 hG.g_x rfl hG.g_f0 ?_
  refine x_getr (pc := 55) dX9_act_55 kf_RX9_115 hG.g_nw.1 rfl hG.g_nw.2.2.2.2.1 ?_
  refine x_iload_n (pc := 58) dX9_act_58 rfl rfl ?_
  refine x_callV (pc := 59) (As := [.int _]) dX9_act_59 km_X5_at kv_X5_at kl_RX9_109 hG.g_nw.2.2.2.2.2.2.2.2.2.2.2.2.1.1 rfl rfl (by decide) ⟨Nat.le_refl _, Nat.le_refl _⟩ rfl (Nat.le_of_ble_eq_true rfl) (Nat.le_of_ble_eq_true rfl) (c_at (hG.g_nw.2.2.2.2.2.2.2.2.2.2.2.2.1) (⟨rfl, rfl, ?_⟩))
  rw [up2_row (show nw + 3 ≠ ac by omega), up2_row (show nw + 4 ≠ ac by omega)]
  rw [show I (nw + 3) 1 = nI (V 8 0) from (h.row 1 (by decide)).1, rAt_in (m := V 8 0) hk v6 (by decide), show I (nw + 4) k = nI (V 1 k) from (h.row 1 (by decide)).2 k hk]
  refine x_put (pc := 62) dX9_act_62 kf_RX9_311 hG.g_ac rfl (Or.inl kb_0_3) ?_
  refine x_aload_n (pc := 65) dX9_act_65 rfl rfl ?_
  refine x_getr (pc := 66) dX9_act_66 kf_RX9_62 hG.g_x rfl hG.g_f9 ?_
  refine x_iload_n (pc := 69) dX9_act_69 rfl rfl ?_
  refine x_put (pc := 70) dX9_act_70 kf_RX9_313 hG.g_ac rfl (Or.inl kb_0_4) ?_
  refine x_aload_n (pc := 73) dX9_act_73 rfl rfl ?_
  refine x_getr (pc := 74) dX9_act_74 kf_RX9_62 hG.g_x rfl hG.g_f9 ?_
  refine x_iload_n (pc := 77) dX9_act_77 rfl rfl ?_
  refine x_aload_n (pc := 78) dX9_act_78 rfl rfl ?_
  refine x_getr (pc := 79) dX9_act_79 kf_RX9_62 hG.g_x rfl hG.g_f9 ?_
  refine x_get (pc := 82) dX9_act_82 kf_RX9_309 hG.g_ac rfl ?_
  rw [show up2 (up2 (up2 I ac 2 5) ac 3 (nI (V 1 k))) ac 4 (nI k) ac 2 = 5 from (up2_k (by decide)).trans ((up2_k (by decide)).trans up2_s)]
  have hA0 : ATC (up2 (up2 (up2 I ac 2 5) ac 3 (nI (V 1 k))) ac 4 (nI k)) ac 5 (V 1 k) k 0 (fun _ => 0) := ⟨(up2_k (by decide)).trans ((up2_k (by decide)).trans ((up2_k (by decide)).trans h1)), (up2_k (by decide)).trans ((up2_k (by decide)).trans up2_s), (up2_k (by decide)).trans up2_s, up2_s, (congrFun ((up2_row (by omega)).trans ((up2_row (by omega)).trans (up2_row (by omega)))) 1).trans h2, fun i hi => absurd hi (by omega)⟩
  refine x_iload_n (pc := 85) dX9_act_85 rfl rfl ?_
  refine x_iconst (pc := 86) (v := 0) dX9_act_86 (by decide) ?_
  refine x_callSN (pc := 87) (As := [.ref _, .int _, .int _, .int _, .int _]) dX9_act_87 km_X0_run ks_X0_run kn_RX9_316 rfl (by decide) ⟨Nat.le_refl _, Nat.le_refl _⟩ rfl (Nat.le_of_ble_eq_true rfl) (Nat.le_of_ble_eq_true rfl) (c_run_5_2_5 (dd := 0) (v := V 1 k) (b := k) (r := 0) (f := fun _ => 0) ⟨hG.g_ac, hG.g_ac0, hG.g_trace⟩ hA0 (by decide) (by decide) (fun J hJ gJ => ⟨rfl, rfl, ?_⟩))
  refine x_ireturn (pc := 90) dX9_act_90 ⟨_, rfl, rfl⟩ ⟨Nat.le_refl _, Nat.le_refl _⟩ ?_
  exact K J (ATC.act (l := [60, 12, 20, 11, 10]) hJ) (fun q p1 p2 p3 => (gJ q p1 p2 p3).trans ((up2_row p1).trans ((up2_row p1).trans (up2_row p1))))

set_option maxHeartbeats 4000000 in
set_option maxRecDepth 100000 in
theorem l_act_6_0 {T : xT} {n : Nat} {sh : Nat → Nat × Nat} {I : xI} {R : xR} {L : xL} {P : xPost} {lr nw im tr rd hu se ac M : Nat} (hG : GEO sh R lr nw im tr rd hu se ac M) {V : xV} {B : Nat} (h : FSC I nw V) (hv : VOK V B) {k : Nat} {z : Int32} (hk : k < V 8 0) (hka : V 0 k = 6) (h1 : I ac 1 = 0) (h2 : I (ac + 1) 1 = 0) (K : ∀ J : xI, ACT J ac (actL 6 0) → atF ac I J → P (n, sh, 0, 0) J R L (some (.int (actR 6 0 z (V 1 k) k))))  :  X T zX9_act 7 0 0 P 29 [(0, .ref lr), (1, .int (nI k)), (2, .int 0), (3, .int z)] [] (n, sh, 0, 0) (I) R L := by
  obtain ⟨v6, v12, v10, vb, vf, vw, vm, vta, vte, vod, vrg, vdi⟩ := id hv
  have e1 := hG.g_e_nw
  have e2 := hG.g_e_ac
  refine x_aload_n (pc := 29) dX9_act_29 rfl rfl ?_
  refine x_getr (pc := 30) dX9_act_30 kf_RX9_62 hG.g_x rfl hG.g_f9 ?_
  refine x_aload_n (pc := 33) dX9_act_33 rfl rfl ?_
  refine x_getr (pc := 34) dX9_act_34 kf_RX9_12 hG.g_x rfl hG.g_f0 ?_
  refine x_getr (pc := 37) dX9_act_37 kf_RX9_105 hG.g_nw.1 rfl hG.g_nw.2.2.2.1 ?_
  refine x_iload_n (pc := 40) dX9_act_40 rfl rfl ?_
  refine x_callV (pc := 41) (As := [.int _]) dX9_act_41 km_X5_at kv_X5_at kl_RX9_109 hG.g_nw.2.2.2.2.2.2.2.2.2.2.2.1.1 rfl rfl (by decide) ⟨Nat.le_refl _, Nat.le_refl _⟩ rfl (Nat.le_of_ble_eq_true rfl) (Nat.le_of_ble_eq_true rfl) (c_at (hG.g_nw.2.2.2.2.2.2.2.2.2.2.2.1) (⟨rfl, rfl, ?_⟩))
  rw [show I (nw + 1) 1 = nI (V 8 0) from (h.row 0 (by decide)).1, rAt_in (m := V 8 0) hk v6 (by decide), show I (nw + 2) k = nI (V 0 k) from (h.row 0 (by decide)).2 k hk]
  rw [hka, show nI 6 = (6 : Int32) from rfl]
  refine x_put (pc := 44) dX9_act_44 kf_RX9_309 hG.g_ac rfl (Or.inl kb_0_2) ?_
  refine x_aload_n (pc := 47) dX9_act_47 rfl rfl ?_
  refine x_getr (pc := 48) dX9_act_48 kf_RX9_62 hG.g_x rfl hG.g_f9 ?_
  refine x_aload_n (pc := 51) dX9_act_51 rfl rfl ?_
  refine x_getr (pc := 52) dX9_act_52 kf_RX9_12 hG.g_x rfl hG.g_f0 ?_
  refine x_getr (pc := 55) dX9_act_55 kf_RX9_115 hG.g_nw.1 rfl hG.g_nw.2.2.2.2.1 ?_
  refine x_iload_n (pc := 58) dX9_act_58 rfl rfl ?_
  refine x_callV (pc := 59) (As := [.int _]) dX9_act_59 km_X5_at kv_X5_at kl_RX9_109 hG.g_nw.2.2.2.2.2.2.2.2.2.2.2.2.1.1 rfl rfl (by decide) ⟨Nat.le_refl _, Nat.le_refl _⟩ rfl (Nat.le_of_ble_eq_true rfl) (Nat.le_of_ble_eq_true rfl) (c_at (hG.g_nw.2.2.2.2.2.2.2.2.2.2.2.2.1) (⟨rfl, rfl, ?_⟩))
  rw [up2_row (show nw + 3 ≠ ac by omega), up2_row (show nw + 4 ≠ ac by omega)]
  rw [show I (nw + 3) 1 = nI (V 8 0) from (h.row 1 (by decide)).1, rAt_in (m := V 8 0) hk v6 (by decide), show I (nw + 4) k = nI (V 1 k) from (h.row 1 (by decide)).2 k hk]
  refine x_put (pc := 62) dX9_act_62 kf_RX9_311 hG.g_ac rfl (Or.inl kb_0_3) ?_
  refine x_aload_n (pc := 65) dX9_act_65 rfl rfl ?_
  refine x_getr (pc := 66) dX9_act_66 kf_RX9_62 hG.g_x rfl hG.g_f9 ?_
  refine x_iload_n (pc := 69) dX9_act_69 rfl rfl ?_
  refine x_put (pc := 70) dX9_act_70 kf_RX9_313 hG.g_ac rfl (Or.inl kb_0_4) ?_
  refine x_aload_n (pc := 73) dX9_act_73 rfl rfl ?_
  refine x_getr (pc := 74) dX9_act_74 kf_RX9_62 hG.g_x rfl hG.g_f9 ?_
  refine x_iload_n (pc := 77) dX9_act_77 rfl rfl ?_
  refine x_aload_n (pc := 78) dX9_act_78 rfl rfl ?_
  refine x_getr (pc := 79) dX9_act_79 kf_RX9_62 hG.g_x rfl hG.g_f9 ?_
  refine x_get (pc := 82) dX9_act_82 kf_RX9_309 hG.g_ac rfl ?_
  rw [show up2 (up2 (up2 I ac 2 6) ac 3 (nI (V 1 k))) ac 4 (nI k) ac 2 = 6 from (up2_k (by decide)).trans ((up2_k (by decide)).trans up2_s)]
  have hA0 : ATC (up2 (up2 (up2 I ac 2 6) ac 3 (nI (V 1 k))) ac 4 (nI k)) ac 6 (V 1 k) k 0 (fun _ => 0) := ⟨(up2_k (by decide)).trans ((up2_k (by decide)).trans ((up2_k (by decide)).trans h1)), (up2_k (by decide)).trans ((up2_k (by decide)).trans up2_s), (up2_k (by decide)).trans up2_s, up2_s, (congrFun ((up2_row (by omega)).trans ((up2_row (by omega)).trans (up2_row (by omega)))) 1).trans h2, fun i hi => absurd hi (by omega)⟩
  refine x_iload_n (pc := 85) dX9_act_85 rfl rfl ?_
  refine x_iconst (pc := 86) (v := 0) dX9_act_86 (by decide) ?_
  refine x_callSN (pc := 87) (As := [.ref _, .int _, .int _, .int _, .int _]) dX9_act_87 km_X0_run ks_X0_run kn_RX9_316 rfl (by decide) ⟨Nat.le_refl _, Nat.le_refl _⟩ rfl (Nat.le_of_ble_eq_true rfl) (Nat.le_of_ble_eq_true rfl) (c_run_6_0_6 (dd := 0) (v := V 1 k) (b := k) (r := 0) (f := fun _ => 0) ⟨hG.g_ac, hG.g_ac0, hG.g_trace⟩ hA0 (by decide) (by decide) (fun J hJ gJ => ⟨rfl, rfl, ?_⟩))
  refine x_ireturn (pc := 90) dX9_act_90 ⟨_, rfl, rfl⟩ ⟨Nat.le_refl _, Nat.le_refl _⟩ ?_
  exact K J (ATC.act (l := [71, 30, 10]) hJ) (fun q p1 p2 p3 => (gJ q p1 p2 p3).trans ((up2_row p1).trans ((up2_row p1).trans (up2_row p1))))

set_option maxHeartbeats 4000000 in
set_option maxRecDepth 100000 in
theorem l_act_6_1 {T : xT} {n : Nat} {sh : Nat → Nat × Nat} {I : xI} {R : xR} {L : xL} {P : xPost} {lr nw im tr rd hu se ac M : Nat} (hG : GEO sh R lr nw im tr rd hu se ac M) {V : xV} {B : Nat} (h : FSC I nw V) (hv : VOK V B) {k : Nat} {z : Int32} (hk : k < V 8 0) (hka : V 0 k = 6) (h1 : I ac 1 = 0) (h2 : I (ac + 1) 1 = 0) (K : ∀ J : xI, ACT J ac (actL 6 1) → atF ac I J → P (n, sh, 0, 0) J R L (some (.int (actR 6 1 z (V 1 k) k))))  :  X T zX9_act 7 0 0 P 29 [(0, .ref lr), (1, .int (nI k)), (2, .int 1), (3, .int z)] [] (n, sh, 0, 0) (I) R L := by
  obtain ⟨v6, v12, v10, vb, vf, vw, vm, vta, vte, vod, vrg, vdi⟩ := id hv
  have e1 := hG.g_e_nw
  have e2 := hG.g_e_ac
  refine x_aload_n (pc := 29) dX9_act_29 rfl rfl ?_
  refine x_getr (pc := 30) dX9_act_30 kf_RX9_62 hG.g_x rfl hG.g_f9 ?_
  refine x_aload_n (pc := 33) dX9_act_33 rfl rfl ?_
  refine x_getr (pc := 34) dX9_act_34 kf_RX9_12 hG.g_x rfl hG.g_f0 ?_
  refine x_getr (pc := 37) dX9_act_37 kf_RX9_105 hG.g_nw.1 rfl hG.g_nw.2.2.2.1 ?_
  refine x_iload_n (pc := 40) dX9_act_40 rfl rfl ?_
  refine x_callV (pc := 41) (As := [.int _]) dX9_act_41 km_X5_at kv_X5_at kl_RX9_109 hG.g_nw.2.2.2.2.2.2.2.2.2.2.2.1.1 rfl rfl (by decide) ⟨Nat.le_refl _, Nat.le_refl _⟩ rfl (Nat.le_of_ble_eq_true rfl) (Nat.le_of_ble_eq_true rfl) (c_at (hG.g_nw.2.2.2.2.2.2.2.2.2.2.2.1) (⟨rfl, rfl, ?_⟩))
  rw [show I (nw + 1) 1 = nI (V 8 0) from (h.row 0 (by decide)).1, rAt_in (m := V 8 0) hk v6 (by decide), show I (nw + 2) k = nI (V 0 k) from (h.row 0 (by decide)).2 k hk]
  rw [hka, show nI 6 = (6 : Int32) from rfl]
  refine x_put (pc := 44) dX9_act_44 kf_RX9_309 hG.g_ac rfl (Or.inl kb_0_2) ?_
  refine x_aload_n (pc := 47) dX9_act_47 rfl rfl ?_
  refine x_getr (pc := 48) dX9_act_48 kf_RX9_62 hG.g_x rfl hG.g_f9 ?_
  refine x_aload_n (pc := 51) dX9_act_51 rfl rfl ?_
  refine x_getr (pc := 52) dX9_act_52 kf_RX9_12 hG.g_x rfl hG.g_f0 ?_
  refine x_getr (pc := 55) dX9_act_55 kf_RX9_115 hG.g_nw.1 rfl hG.g_nw.2.2.2.2.1 ?_
  refine x_iload_n (pc := 58) dX9_act_58 rfl rfl ?_
  refine x_callV (pc := 59) (As := [.int _]) dX9_act_59 km_X5_at kv_X5_at kl_RX9_109 hG.g_nw.2.2.2.2.2.2.2.2.2.2.2.2.1.1 rfl rfl (by decide) ⟨Nat.le_refl _, Nat.le_refl _⟩ rfl (Nat.le_of_ble_eq_true rfl) (Nat.le_of_ble_eq_true rfl) (c_at (hG.g_nw.2.2.2.2.2.2.2.2.2.2.2.2.1) (⟨rfl, rfl, ?_⟩))
  rw [up2_row (show nw + 3 ≠ ac by omega), up2_row (show nw + 4 ≠ ac by omega)]
  rw [show I (nw + 3) 1 = nI (V 8 0) from (h.row 1 (by decide)).1, rAt_in (m := V 8 0) hk v6 (by decide), show I (nw + 4) k = nI (V 1 k) from (h.row 1 (by decide)).2 k hk]
  refine x_put (pc := 62) dX9_act_62 kf_RX9_311 hG.g_ac rfl (Or.inl kb_0_3) ?_
  refine x_aload_n (pc := 65) dX9_act_65 rfl rfl ?_
  refine x_getr (pc := 66) dX9_act_66 kf_RX9_62 hG.g_x rfl hG.g_f9 ?_
  refine x_iload_n (pc := 69) dX9_act_69 rfl rfl ?_
  refine x_put (pc := 70) dX9_act_70 kf_RX9_313 hG.g_ac rfl (Or.inl kb_0_4) ?_
  refine x_aload_n (pc := 73) dX9_act_73 rfl rfl ?_
  refine x_getr (pc := 74) dX9_act_74 kf_RX9_62 hG.g_x rfl hG.g_f9 ?_
  refine x_iload_n (pc := 77) dX9_act_77 rfl rfl ?_
  refine x_aload_n (pc := 78) dX9_act_78 rfl rfl ?_
  refine x_getr (pc := 79) dX9_act_79 kf_RX9_62 hG.g_x rfl hG.g_f9 ?_
  refine x_get (pc := 82) dX9_act_82 kf_RX9_309 hG.g_ac rfl ?_
  rw [show up2 (up2 (up2 I ac 2 6) ac 3 (nI (V 1 k))) ac 4 (nI k) ac 2 = 6 from (up2_k (by decide)).trans ((up2_k (by decide)).trans up2_s)]
  have hA0 : ATC (up2 (up2 (up2 I ac 2 6) ac 3 (nI (V 1 k))) ac 4 (nI k)) ac 6 (V 1 k) k 0 (fun _ => 0) := ⟨(up2_k (by decide)).trans ((up2_k (by decide)).trans ((up2_k (by decide)).trans h1)), (up2_k (by decide)).trans ((up2_k (by decide)).trans up2_s), (up2_k (by decide)).trans up2_s, up2_s, (congrFun ((up2_row (by omega)).trans ((up2_row (by omega)).trans (up2_row (by omega)))) 1).trans h2, fun i hi => absurd hi (by omega)⟩
  refine x_iload_n (pc := 85) dX9_act_85 rfl rfl ?_
  refine x_iconst (pc := 86) (v := 0) dX9_act_86 (by decide) ?_
  refine x_callSN (pc := 87) (As := [.ref _, .int _, .int _, .int _, .int _]) dX9_act_87 km_X0_run ks_X0_run kn_RX9_316 rfl (by decide) ⟨Nat.le_refl _, Nat.le_refl _⟩ rfl (Nat.le_of_ble_eq_true rfl) (Nat.le_of_ble_eq_true rfl) (c_run_6_1_6 (dd := 0) (v := V 1 k) (b := k) (r := 0) (f := fun _ => 0) ⟨hG.g_ac, hG.g_ac0, hG.g_trace⟩ hA0 (by decide) (by decide) (fun J hJ gJ => ⟨rfl, rfl, ?_⟩))
  refine x_ireturn (pc := 90) dX9_act_90 ⟨_, rfl, rfl⟩ ⟨Nat.le_refl _, Nat.le_refl _⟩ ?_
  exact K J (ATC.act (l := [70, 11, 71, 30, 10, 30, 10]) hJ) (fun q p1 p2 p3 => (gJ q p1 p2 p3).trans ((up2_row p1).trans ((up2_row p1).trans (up2_row p1))))

set_option maxHeartbeats 4000000 in
set_option maxRecDepth 100000 in
theorem l_act_6_2 {T : xT} {n : Nat} {sh : Nat → Nat × Nat} {I : xI} {R : xR} {L : xL} {P : xPost} {lr nw im tr rd hu se ac M : Nat} (hG : GEO sh R lr nw im tr rd hu se ac M) {V : xV} {B : Nat} (h : FSC I nw V) (hv : VOK V B) {k : Nat} {z : Int32} (hk : k < V 8 0) (hka : V 0 k = 6) (h1 : I ac 1 = 0) (h2 : I (ac + 1) 1 = 0) (K : ∀ J : xI, ACT J ac (actL 6 2) → atF ac I J → P (n, sh, 0, 0) J R L (some (.int (actR 6 2 z (V 1 k) k))))  :  X T zX9_act 7 0 0 P 29 [(0, .ref lr), (1, .int (nI k)), (2, .int 2), (3, .int z)] [] (n, sh, 0, 0) (I) R L := by
  obtain ⟨v6, v12, v10, vb, vf, vw, vm, vta, vte, vod, vrg, vdi⟩ := id hv
  have e1 := hG.g_e_nw
  have e2 := hG.g_e_ac
  refine x_aload_n (pc := 29) dX9_act_29 rfl rfl ?_
  refine x_getr (pc := 30) dX9_act_30 kf_RX9_62 hG.g_x rfl hG.g_f9 ?_
  refine x_aload_n (pc := 33) dX9_act_33 rfl rfl ?_
  refine x_getr (pc := 34) dX9_act_34 kf_RX9_12 hG.g_x rfl hG.g_f0 ?_
  refine x_getr (pc := 37) dX9_act_37 kf_RX9_105 hG.g_nw.1 rfl hG.g_nw.2.2.2.1 ?_
  refine x_iload_n (pc := 40) dX9_act_40 rfl rfl ?_
  refine x_callV (pc := 41) (As := [.int _]) dX9_act_41 km_X5_at kv_X5_at kl_RX9_109 hG.g_nw.2.2.2.2.2.2.2.2.2.2.2.1.1 rfl rfl (by decide) ⟨Nat.le_refl _, Nat.le_refl _⟩ rfl (Nat.le_of_ble_eq_true rfl) (Nat.le_of_ble_eq_true rfl) (c_at (hG.g_nw.2.2.2.2.2.2.2.2.2.2.2.1) (⟨rfl, rfl, ?_⟩))
  rw [show I (nw + 1) 1 = nI (V 8 0) from (h.row 0 (by decide)).1, rAt_in (m := V 8 0) hk v6 (by decide), show I (nw + 2) k = nI (V 0 k) from (h.row 0 (by decide)).2 k hk]
  rw [hka, show nI 6 = (6 : Int32) from rfl]
  refine x_put (pc := 44) dX9_act_44 kf_RX9_309 hG.g_ac rfl (Or.inl kb_0_2) ?_
  refine x_aload_n (pc := 47) dX9_act_47 rfl rfl ?_
  refine x_getr (pc := 48) dX9_act_48 kf_RX9_62 hG.g_x rfl hG.g_f9 ?_
  refine x_aload_n (pc := 51) dX9_act_51 rfl rfl ?_
  refine x_getr (pc := 52) dX9_act_52 kf_RX9_12 hG.g_x rfl hG.g_f0 ?_
  refine x_getr (pc := 55) dX9_act_55 kf_RX9_115 hG.g_nw.1 rfl hG.g_nw.2.2.2.2.1 ?_
  refine x_iload_n (pc := 58) dX9_act_58 rfl rfl ?_
  refine x_callV (pc := 59) (As := [.int _]) dX9_act_59 km_X5_at kv_X5_at kl_RX9_109 hG.g_nw.2.2.2.2.2.2.2.2.2.2.2.2.1.1 rfl rfl (by decide) ⟨Nat.le_refl _, Nat.le_refl _⟩ rfl (Nat.le_of_ble_eq_true rfl) (Nat.le_of_ble_eq_true rfl) (c_at (hG.g_nw.2.2.2.2.2.2.2.2.2.2.2.2.1) (⟨rfl, rfl, ?_⟩))
  rw [up2_row (show nw + 3 ≠ ac by omega), up2_row (show nw + 4 ≠ ac by omega)]
  rw [show I (nw + 3) 1 = nI (V 8 0) from (h.row 1 (by decide)).1, rAt_in (m := V 8 0) hk v6 (by decide), show I (nw + 4) k = nI (V 1 k) from (h.row 1 (by decide)).2 k hk]
  refine x_put (pc := 62) dX9_act_62 kf_RX9_311 hG.g_ac rfl (Or.inl kb_0_3) ?_
  refine x_aload_n (pc := 65) dX9_act_65 rfl rfl ?_
  refine x_getr (pc := 66) dX9_act_66 kf_RX9_62 hG.g_x rfl hG.g_f9 ?_
  refine x_iload_n (pc := 69) dX9_act_69 rfl rfl ?_
  refine x_put (pc := 70) dX9_act_70 kf_RX9_313 hG.g_ac rfl (Or.inl kb_0_4) ?_
  refine x_aload_n (pc := 73) dX9_act_73 rfl rfl ?_
  refine x_getr (pc := 74) dX9_act_74 kf_RX9_62 hG.g_x rfl hG.g_f9 ?_
  refine x_iload_n (pc := 77) dX9_act_77 rfl rfl ?_
  refine x_aload_n (pc := 78) dX9_act_78 rfl rfl ?_
  refine x_getr (pc := 79) dX9_act_79 kf_RX9_62 hG.g_x rfl hG.g_f9 ?_
  refine x_get (pc := 82) dX9_act_82 kf_RX9_309 hG.g_ac rfl ?_
  rw [show up2 (up2 (up2 I ac 2 6) ac 3 (nI (V 1 k))) ac 4 (nI k) ac 2 = 6 from (up2_k (by decide)).trans ((up2_k (by decide)).trans up2_s)]
  have hA0 : ATC (up2 (up2 (up2 I ac 2 6) ac 3 (nI (V 1 k))) ac 4 (nI k)) ac 6 (V 1 k) k 0 (fun _ => 0) := ⟨(up2_k (by decide)).trans ((up2_k (by decide)).trans ((up2_k (by decide)).trans h1)), (up2_k (by decide)).trans ((up2_k (by decide)).trans up2_s), (up2_k (by decide)).trans up2_s, up2_s, (congrFun ((up2_row (by omega)).trans ((up2_row (by omega)).trans (up2_row (by omega)))) 1).trans h2, fun i hi => absurd hi (by omega)⟩
  refine x_iload_n (pc := 85) dX9_act_85 rfl rfl ?_
  refine x_iconst (pc := 86) (v := 0) dX9_act_86 (by decide) ?_
  refine x_callSN (pc := 87) (As := [.ref _, .int _, .int _, .int _, .int _]) dX9_act_87 km_X0_run ks_X0_run kn_RX9_316 rfl (by decide) ⟨Nat.le_refl _, Nat.le_refl _⟩ rfl (Nat.le_of_ble_eq_true rfl) (Nat.le_of_ble_eq_true rfl) (c_run_6_2_6 (dd := 0) (v := V 1 k) (b := k) (r := 0) (f := fun _ => 0) ⟨hG.g_ac, hG.g_ac0, hG.g_trace⟩ hA0 (by decide) (by decide) (fun J hJ gJ => ⟨rfl, rfl, ?_⟩))
  refine x_ireturn (pc := 90) dX9_act_90 ⟨_, rfl, rfl⟩ ⟨Nat.le_refl _, Nat.le_refl _⟩ ?_
  exact K J (ATC.act (l := [12, 70, 11, 71, 30, 10, 30, 10]) hJ) (fun q p1 p2 p3 => (gJ q p1 p2 p3).trans ((up2_row p1).trans ((up2_row p1).trans (up2_row p1))))

set_option maxHeartbeats 4000000 in
set_option maxRecDepth 100000 in
theorem c_forget {T : xT} {n : Nat} {sh : Nat → Nat × Nat} {I : xI} {R : xR} {L : xL} {P : xPost} {ac : Nat} (hS : sh ac = (0, 0) ∧ R ac 0 = some (ac + 1) ∧ xRow sh R (ac + 1) (ac + 2) 20) (K : P (n, sh, 0, 0) (up2 (up2 I (ac + 1) 1 0) ac 1 0) R L none)  : XM T zX0_forget 1 [.ref ac] n sh I R L P := by
  refine x_aload_n (pc := 0) dX0_forget_0 rfl rfl ?_
  refine x_getr (pc := 1) dX0_forget_1 kf_RX0_16 hS.1 rfl hS.2.1 ?_
  refine x_callV (pc := 4) (As := []) dX0_forget_4 km_X5_clear kv_X5_clear kl_RX0_33 hS.2.2.1 rfl rfl (by decide) ⟨Nat.le_refl _, Nat.le_refl _⟩ rfl (Nat.le_of_ble_eq_true rfl) (Nat.le_of_ble_eq_true rfl) (c_clear hS.2.2 (⟨rfl, rfl, ?_⟩))
  refine x_aload_n (pc := 7) dX0_forget_7 rfl rfl ?_
  refine x_iconst (pc := 8) (v := 0) dX0_forget_8 (by decide) ?_
  refine x_put (pc := 9) dX0_forget_9 kf_RX0_20 hS.1 rfl (Or.inl kb_0_1) ?_
  refine x_return (pc := 12) dX0_forget_12 rfl ⟨Nat.le_refl _, Nat.le_refl _⟩ ?_
  exact K

set_option maxHeartbeats 4000000 in
set_option maxRecDepth 100000 in
theorem c_actIt {T : xT} {n : Nat} {sh : Nat → Nat × Nat} {I : xI} {R : xR} {L : xL} {P : xPost} {lr nw im tr rd hu se ac M : Nat} (hG : GEO sh R lr nw im tr rd hu se ac M) {V : xV} {B : Nat} (h : FSC I nw V) (hv : VOK V B) {x y z : Int32} (K : ∀ J : xI, ACT J ac (spAct V x y z).2 → atF ac I J → P (n, sh, 0, 0) J R L (some (.int (spAct V x y z).1)))  : XM T zX9_act 7 [.ref lr, .int x, .int y, .int z] n sh I R L P := by
  obtain ⟨v6, v12, v10, vb, vf, vw, vm, vta, vte, vod, vrg, vdi⟩ := id hv
  have e1 := hG.g_e_nw
  have e2 := hG.g_e_ac
  refine x_aload_n (pc := 0) dX9_act_0 rfl rfl ?_
  refine x_getr (pc := 1) dX9_act_1 kf_RX9_62 hG.g_x rfl hG.g_f9 ?_
  refine x_callV (pc := 4) (As := []) dX9_act_4 km_X0_forget kv_X0_forget kl_RX9_306 hG.g_ac rfl rfl (by decide) ⟨Nat.le_refl _, Nat.le_refl _⟩ rfl (Nat.le_of_ble_eq_true rfl) (Nat.le_of_ble_eq_true rfl) (c_forget ⟨hG.g_ac, hG.g_ac0, hG.g_trace⟩ (⟨rfl, rfl, ?_⟩))
  have gg : ∀ q, q ≠ ac → q ≠ ac + 1 → up2 (up2 I (ac + 1) 1 0) ac 1 0 q = I q := fun q p1 p2 => (up2_row p1).trans (up2_row p2)
  have hh := h.keep (I' := up2 (up2 I (ac + 1) 1 0) ac 1 0) (fun q p1 p2 => gg q (by omega) (by omega))
  have z1 : up2 (up2 I (ac + 1) 1 0) ac 1 0 (ac + 1) 1 = 0 := (congrFun (up2_row (by omega)) 1).trans up2_s
  have z0 : ACT (up2 (up2 I (ac + 1) 1 0) ac 1 0) ac [] := ⟨up2_s, z1, fun i hi => absurd hi (by simp)⟩
  refine x_aload_n (pc := 7) dX9_act_7 rfl rfl ?_
  refine x_getr (pc := 8) dX9_act_8 kf_RX9_12 hG.g_x rfl hG.g_f0 ?_
  refine x_iload_n (pc := 11) dX9_act_11 rfl rfl ?_
  refine x_callV (pc := 12) (As := [.int _]) dX9_act_12 km_X6_isBeast kv_X6_isBeast kl_RX9_102 hG.g_nw.1 rfl rfl (by decide) ⟨Nat.le_refl _, Nat.le_refl _⟩ rfl (Nat.le_of_ble_eq_true rfl) (Nat.le_of_ble_eq_true rfl) (c_isBeast hG.g_nw (hh.row 2 (by decide)) v6 (fun k hk ek => ⟨rfl, rfl, ?_⟩) (fun h1 => ⟨rfl, rfl, ?_⟩))
  · skip
    have hk : k < V 8 0 := hk
    subst ek
    have k7 := k7c (vb k hk).1
    refine x_if_eq_f (pc := 15) (tgt := 27) dX9_act_15 (by decide) (by decide) ?_
    refine x_iload_n (pc := 18) dX9_act_18 rfl rfl ?_
    refine x_iconst (pc := 19) (v := 0) dX9_act_19 (by decide) ?_
    refine x_iconst (pc := 20) (v := 2) dX9_act_20 (by decide) ?_
    refine x_callS (pc := 21) (As := [.int _, .int _, .int _]) dX9_act_21 km_X9_isWithin ks_X9_isWithin kl_RX9_81 rfl (by decide) ⟨Nat.le_refl _, Nat.le_refl _⟩ rfl (Nat.le_of_ble_eq_true rfl) (Nat.le_of_ble_eq_true rfl) (c_isWithin (fun p1 p2 => ⟨rfl, rfl, ?_⟩) (fun g1 => ⟨rfl, rfl, ?_⟩))
    · skip
      refine x_if_ne_t (pc := 24) (tgt := 29) dX9_act_24 (by decide) (by decide) ?_
      rcases i3_k p1 p2 with ey | ey | ey <;> subst ey
      · rcases k7 with q | q | q | q | q | q | q
        · have e9 := spAct_s (V := V) (z := z) v6 hk (show 0 < 3 by decide)
          rw [q] at e9
          rw [e9] at K
          exact l_act_0_0 hG hh hv hk q up2_s z1 (fun J q1 q2 => K J q1 (fun p p1 p2 p3 => (q2 p p1 p2 p3).trans (gg p p1 p2)))
        · have e9 := spAct_s (V := V) (z := z) v6 hk (show 0 < 3 by decide)
          rw [q] at e9
          rw [e9] at K
          exact l_act_1_0 hG hh hv hk q up2_s z1 (fun J q1 q2 => K J q1 (fun p p1 p2 p3 => (q2 p p1 p2 p3).trans (gg p p1 p2)))
        · have e9 := spAct_s (V := V) (z := z) v6 hk (show 0 < 3 by decide)
          rw [q] at e9
          rw [e9] at K
          exact l_act_2_0 hG hh hv hk q up2_s z1 (fun J q1 q2 => K J q1 (fun p p1 p2 p3 => (q2 p p1 p2 p3).trans (gg p p1 p2)))
        · have e9 := spAct_s (V := V) (z := z) v6 hk (show 0 < 3 by decide)
          rw [q] at e9
          rw [e9] at K
          exact l_act_3_0 hG hh hv hk q up2_s z1 (fun J q1 q2 => K J q1 (fun p p1 p2 p3 => (q2 p p1 p2 p3).trans (gg p p1 p2)))
        · have e9 := spAct_s (V := V) (z := z) v6 hk (show 0 < 3 by decide)
          rw [q] at e9
          rw [e9] at K
          exact l_act_4_0 hG hh hv hk q up2_s z1 (fun J q1 q2 => K J q1 (fun p p1 p2 p3 => (q2 p p1 p2 p3).trans (gg p p1 p2)))
        · have e9 := spAct_s (V := V) (z := z) v6 hk (show 0 < 3 by decide)
          rw [q] at e9
          rw [e9] at K
          exact l_act_5_0 hG hh hv hk q up2_s z1 (fun J q1 q2 => K J q1 (fun p p1 p2 p3 => (q2 p p1 p2 p3).trans (gg p p1 p2)))
        · have e9 := spAct_s (V := V) (z := z) v6 hk (show 0 < 3 by decide)
          rw [q] at e9
          rw [e9] at K
          exact l_act_6_0 hG hh hv hk q up2_s z1 (fun J q1 q2 => K J q1 (fun p p1 p2 p3 => (q2 p p1 p2 p3).trans (gg p p1 p2)))
      · rcases k7 with q | q | q | q | q | q | q
        · have e9 := spAct_s (V := V) (z := z) v6 hk (show 1 < 3 by decide)
          rw [q] at e9
          rw [e9] at K
          exact l_act_0_1 hG hh hv hk q up2_s z1 (fun J q1 q2 => K J q1 (fun p p1 p2 p3 => (q2 p p1 p2 p3).trans (gg p p1 p2)))
        · have e9 := spAct_s (V := V) (z := z) v6 hk (show 1 < 3 by decide)
          rw [q] at e9
          rw [e9] at K
          exact l_act_1_1 hG hh hv hk q up2_s z1 (fun J q1 q2 => K J q1 (fun p p1 p2 p3 => (q2 p p1 p2 p3).trans (gg p p1 p2)))
        · have e9 := spAct_s (V := V) (z := z) v6 hk (show 1 < 3 by decide)
          rw [q] at e9
          rw [e9] at K
          exact l_act_2_1 hG hh hv hk q up2_s z1 (fun J q1 q2 => K J q1 (fun p p1 p2 p3 => (q2 p p1 p2 p3).trans (gg p p1 p2)))
        · have e9 := spAct_s (V := V) (z := z) v6 hk (show 1 < 3 by decide)
          rw [q] at e9
          rw [e9] at K
          exact l_act_3_1 hG hh hv hk q up2_s z1 (fun J q1 q2 => K J q1 (fun p p1 p2 p3 => (q2 p p1 p2 p3).trans (gg p p1 p2)))
        · have e9 := spAct_s (V := V) (z := z) v6 hk (show 1 < 3 by decide)
          rw [q] at e9
          rw [e9] at K
          exact l_act_4_1 hG hh hv hk q up2_s z1 (fun J q1 q2 => K J q1 (fun p p1 p2 p3 => (q2 p p1 p2 p3).trans (gg p p1 p2)))
        · have e9 := spAct_s (V := V) (z := z) v6 hk (show 1 < 3 by decide)
          rw [q] at e9
          rw [e9] at K
          exact l_act_5_1 hG hh hv hk q up2_s z1 (fun J q1 q2 => K J q1 (fun p p1 p2 p3 => (q2 p p1 p2 p3).trans (gg p p1 p2)))
        · have e9 := spAct_s (V := V) (z := z) v6 hk (show 1 < 3 by decide)
          rw [q] at e9
          rw [e9] at K
          exact l_act_6_1 hG hh hv hk q up2_s z1 (fun J q1 q2 => K J q1 (fun p p1 p2 p3 => (q2 p p1 p2 p3).trans (gg p p1 p2)))
      · rcases k7 with q | q | q | q | q | q | q
        · have e9 := spAct_s (V := V) (z := z) v6 hk (show 2 < 3 by decide)
          rw [q] at e9
          rw [e9] at K
          exact l_act_0_2 hG hh hv hk q up2_s z1 (fun J q1 q2 => K J q1 (fun p p1 p2 p3 => (q2 p p1 p2 p3).trans (gg p p1 p2)))
        · have e9 := spAct_s (V := V) (z := z) v6 hk (show 2 < 3 by decide)
          rw [q] at e9
          rw [e9] at K
          exact l_act_1_2 hG hh hv hk q up2_s z1 (fun J q1 q2 => K J q1 (fun p p1 p2 p3 => (q2 p p1 p2 p3).trans (gg p p1 p2)))
        · have e9 := spAct_s (V := V) (z := z) v6 hk (show 2 < 3 by decide)
          rw [q] at e9
          rw [e9] at K
          exact l_act_2_2 hG hh hv hk q up2_s z1 (fun J q1 q2 => K J q1 (fun p p1 p2 p3 => (q2 p p1 p2 p3).trans (gg p p1 p2)))
        · have e9 := spAct_s (V := V) (z := z) v6 hk (show 2 < 3 by decide)
          rw [q] at e9
          rw [e9] at K
          exact l_act_3_2 hG hh hv hk q up2_s z1 (fun J q1 q2 => K J q1 (fun p p1 p2 p3 => (q2 p p1 p2 p3).trans (gg p p1 p2)))
        · have e9 := spAct_s (V := V) (z := z) v6 hk (show 2 < 3 by decide)
          rw [q] at e9
          rw [e9] at K
          exact l_act_4_2 hG hh hv hk q up2_s z1 (fun J q1 q2 => K J q1 (fun p p1 p2 p3 => (q2 p p1 p2 p3).trans (gg p p1 p2)))
        · have e9 := spAct_s (V := V) (z := z) v6 hk (show 2 < 3 by decide)
          rw [q] at e9
          rw [e9] at K
          exact l_act_5_2 hG hh hv hk q up2_s z1 (fun J q1 q2 => K J q1 (fun p p1 p2 p3 => (q2 p p1 p2 p3).trans (gg p p1 p2)))
        · have e9 := spAct_s (V := V) (z := z) v6 hk (show 2 < 3 by decide)
          rw [q] at e9
          rw [e9] at K
          exact l_act_6_2 hG hh hv hk q up2_s z1 (fun J q1 q2 => K J q1 (fun p p1 p2 p3 => (q2 p p1 p2 p3).trans (gg p p1 p2)))
    · skip
      refine x_if_ne_f (pc := 24) (tgt := 29) dX9_act_24 (by decide) (by decide) ?_
      refine x_iconst (pc := 27) (v := 0) dX9_act_27 (by decide) ?_
      refine x_ireturn (pc := 28) dX9_act_28 ⟨_, rfl, rfl⟩ ⟨Nat.le_refl _, Nat.le_refl _⟩ ?_
      have e9 : spAct V (nI k) y z = (0, []) := by first | exact spAct_1 h1 | exact spAct_2 g1
      have h9 := K _ (by rw [e9]; exact z0) (fun q p1 p2 p3 => gg q p1 p2)
      rw [e9] at h9
      exact h9
  · skip
    refine x_if_eq_t (pc := 15) (tgt := 27) dX9_act_15 (by decide) (by decide) ?_
    refine x_iconst (pc := 27) (v := 0) dX9_act_27 (by decide) ?_
    refine x_ireturn (pc := 28) dX9_act_28 ⟨_, rfl, rfl⟩ ⟨Nat.le_refl _, Nat.le_refl _⟩ ?_
    have e9 : spAct V (x) y z = (0, []) := by first | exact spAct_1 h1 | exact spAct_2 g1
    have h9 := K _ (by rw [e9]; exact z0) (fun q p1 p2 p3 => gg q p1 p2)
    rw [e9] at h9
    exact h9

