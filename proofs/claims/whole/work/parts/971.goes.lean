/-! ===== the text: the reference reads the whole text ===== -/
/-- the clauses read, as they lie -/
def MCL (I : xI) (M f : Nat) (s : List Int32) (acc : List xCL) : Prop := ∀ i x, acc[i]? = some x → I (M + 9) (8 * f + i) = nI (2 - x.1) ∧ I (M + 10) (8 * f + i) = nI x.2.1 ∧ (x.1 ≠ 0 → ∃ fr, fr + x.2.2.2.1.length ≤ s.length ∧ I (M + 11) (8 * f + i) = nI fr ∧ I (M + 12) (8 * f + i) = nI (fr + x.2.2.2.1.length) ∧ ∀ j y, x.2.2.2.1[j]? = some y → s[fr + j]? = some y)
theorem MCL.keep {I J : xI} {M f : Nat} {s : List Int32} {acc : List xCL} (h : MCL I M f s acc) (k : ∀ a, M + 9 ≤ a → a ≤ M + 12 → J a = I a) : MCL J M f s acc := fun i x hi => by
  obtain ⟨h1, h2, h3⟩ := h i x hi
  rw [k (M + 9) (by omega) (by omega), k (M + 10) (by omega) (by omega), k (M + 11) (by omega) (by omega), k (M + 12) (by omega) (by omega)]
  exact ⟨h1, h2, h3⟩
theorem MCL.snoc {I J : xI} {M f : Nat} {s sg : List Int32} {acc : List xCL} {x : xCL} (h : MCL I M f s acc) (g : mdC M (8 * f + acc.length) I J) (h1 : J (M + 9) (8 * f + acc.length) = nI (2 - x.1)) (h2 : J (M + 10) (8 * f + acc.length) = nI x.2.1) (h3 : x.1 ≠ 0 → sg = x.2.2.2.1 ∧ J (M + 11) (8 * f + acc.length) = nI (0 + s.length) ∧ J (M + 12) (8 * f + acc.length) = nI (0 + s.length + sg.length)) : MCL J M f (s ++ sg) (acc ++ [x]) := fun i y hi => by
  have hlen : (acc ++ [x]).length = acc.length + 1 := by rw [List.length_append]; rfl
  have hls : (s ++ sg).length = s.length + sg.length := List.length_append
  have hlt := (List.getElem?_eq_some_iff.mp hi).1
  by_cases hne : i = acc.length
  · subst hne
    rw [List.getElem?_append_right (Nat.le_refl _), Nat.sub_self] at hi
    cases hi
    refine ⟨h1, h2, fun hx => ?_⟩
    obtain ⟨e1, e2, e3⟩ := h3 hx
    subst e1
    rw [Nat.zero_add] at e2 e3
    refine ⟨s.length, by omega, e2, e3, fun j z hj => ?_⟩
    rw [List.getElem?_append_right (by omega), show s.length + j - s.length = j by omega]
    exact hj
  · rw [List.getElem?_append_left (by omega)] at hi
    obtain ⟨g1, g2, g3⟩ := h i y hi
    rw [g.2.2 (M + 9) (8 * f + i) (by omega) (by omega) (by omega), g.2.2 (M + 10) (8 * f + i) (by omega) (by omega) (by omega), g.2.2 (M + 11) (8 * f + i) (by omega) (by omega) (by omega), g.2.2 (M + 12) (8 * f + i) (by omega) (by omega) (by omega)]
    refine ⟨g1, g2, fun hx => ?_⟩
    obtain ⟨fr, e1, e2, e3, e4⟩ := g3 hx
    refine ⟨fr, by omega, e2, e3, fun j z hj => ?_⟩
    have e5 := e4 j z hj
    rw [List.getElem?_append_left (List.getElem?_eq_some_iff.mp e5).1]
    exact e5
/-- frame of a text read into ring f -/
def mdG (M f : Nat) (I J : xI) : Prop := (∀ a, (a < M ∨ (M < a ∧ a < M + 8) ∨ M + 14 < a) → J a = I a) ∧ (∀ k, k ≠ 13 → k ≠ 14 → k ≠ 23 → k ≠ 24 → k ≠ 25 → J M k = I M k) ∧ (∀ a i, M + 9 ≤ a → a ≤ M + 12 → i < 8 * f → J a i = I a i) ∧ ∀ i, i ≠ f → J (M + 8) i = I (M + 8) i
theorem mdG.tr {M f : Nat} {I J J' : xI} (h : mdG M f I J) (h' : mdG M f J J') : mdG M f I J' := ⟨fun a p => (h'.1 a p).trans (h.1 a p), fun k p q r s t => (h'.2.1 k p q r s t).trans (h.2.1 k p q r s t), fun a i p q r => (h'.2.2.1 a i p q r).trans (h.2.2.1 a i p q r), fun i p => (h'.2.2.2 i p).trans (h.2.2.2 i p)⟩
theorem mdC.g {M f c : Nat} {I J : xI} (h : mdC M c I J) (hc : 8 * f ≤ c) : mdG M f I J := ⟨fun a p => h.1 a (by omega), h.2.1, fun a i p q r => h.2.2 a i p q (by omega), fun i _ => congrFun (h.1 (M + 8) (by omega)) i⟩
theorem mdG.cl {M f : Nat} {x : Int32} {I : xI} : mdG M f I (up2 I (M + 8) f x) := ⟨fun a p => up2_row (by omega), fun k _ _ _ _ _ => congrFun (up2_row (by omega)) k, fun a i _ _ _ => congrFun (up2_row (by omega)) i, fun i p => up2_k p⟩
theorem mdG.fld {M f k : Nat} {x : Int32} {I : xI} (h : k = 13 ∨ k = 23) : mdG M f I (up2 I M k x) := ⟨fun a p => up2_row (by omega), fun j p q r s t => up2_k (by omega), fun a i p q _ => congrFun (up2_row (by omega)) i, fun i _ => congrFun (up2_row (by omega)) i⟩
theorem mTxt.keepG {M f : Nat} {I J : xI} {t : xX} (h : mTxt I M t) (g : mdG M f I J) : mTxt J M t := ⟨(g.2.1 12 (by decide) (by decide) (by decide) (by decide) (by decide)).trans h.1, fun i hi => (congrFun (g.1 (M + 7) (by omega)) i).trans (h.2 i hi)⟩
theorem LWD.keepG {I J : xI} {M f : Nat} (h : LWD I M) (g : mdG M f I J) : LWD J M := h.keep (g.1 (M + 15) (by omega))

set_option maxHeartbeats 4000000 in
set_option maxRecDepth 100000 in
theorem lm_gt40 {T : xT} {n : Nat} {sh : Nat → Nat × Nat} {I : xI} {R : xR} {L : xL} {P : xPost} {M : Nat} (hM : xModel sh R M) {t : xX} (hx : XOK t) (ht : mTxt I M t) {q f k : Nat} (hp : I M 13 = nI q) (hq : q ≤ t.1) (hk : k ≤ 8) (KD : q = t.1 → P (n, sh, 0, 0) I R L (some (.int 1))) (KF : ¬ q = t.1 → (k = 8 ∨ nxX t q ≠ 59) → P (n, sh, 0, 0) I R L (some (.int 0))) (KN : ¬ q = t.1 → ¬ k = 8 → nxX t q = 59 → X T zX10_goesText 6 0 0 P 15 [(0, .ref M), (1, .int (nI f)), (2, .int (nI k))] [] (n, sh, 0, 0)  (up2 I M 13 (nI (q + 1))) R L)  :  X T zX10_goesText 6 0 0 P 40 [(0, .ref M), (1, .int (nI f)), (2, .int (nI k))] [] (n, sh, 0, 0) (I) R L := by
  have x100 := hx.1
  refine x_aload_n (pc := 40) dX10_goesText_40 rfl rfl ?_
  refine x_get (pc := 41) dX10_goesText_41 kf_RX10_50 hM.s rfl ?_
  rw [hp]
  refine x_aload_n (pc := 44) dX10_goesText_44 rfl rfl ?_
  refine x_get (pc := 45) dX10_goesText_45 kf_RX10_47 hM.s rfl ?_
  rw [ht.1]
  refine x_icmpn_ne (pc := 48) (tgt := 53) (a := q) (b := t.1) dX10_goesText_48 (by decide) (by omega) (by omega) (fun c48 => ?_) (fun c48 => ?_)
  · skip
    refine x_iload_n (pc := 53) dX10_goesText_53 rfl rfl ?_
    refine x_bipush (pc := 54) (v := 8) dX10_goesText_54 (by decide) ?_
    refine x_icmpn_eq (pc := 56) (tgt := 68) (a := k) (b := 8) dX10_goesText_56 (by decide) (by omega) (by decide) (fun c56 => ?_) (fun c56 => ?_)
    · skip
      refine x_iconst (pc := 68) (v := 0) dX10_goesText_68 (by decide) ?_
      refine x_ireturn (pc := 69) dX10_goesText_69 ⟨_, rfl, by decide⟩ ⟨Nat.le_refl _, Nat.le_refl _⟩ ?_
      first
      | exact KF c48 (Or.inr g1)
      | exact KF c48 (Or.inl (by omega))
    · skip
      refine x_aload_n (pc := 59) dX10_goesText_59 rfl rfl ?_
      refine x_bipush (pc := 60) (v := 59) dX10_goesText_60 (by decide) ?_
      refine x_callV (pc := 62) (As := [.int _]) dX10_goesText_62 km_X10_takes kv_X10_takes kl_RX10_253 hM.s rfl rfl (by decide) ⟨Nat.le_refl _, Nat.le_refl _⟩ rfl (Nat.le_of_ble_eq_true rfl) (Nat.le_of_ble_eq_true rfl) (m_takes (c := 59) hM hx ht hp hq (by decide) (fun g1 g2 => ⟨rfl, rfl, ?_⟩) (fun g1 => ⟨rfl, rfl, ?_⟩))
      · skip
        refine x_if_ne_t (pc := 65) (tgt := 15) dX10_goesText_65 (by decide) (by decide) ?_
        exact KN c48 c56 g1
      · skip
        refine x_if_ne_f (pc := 65) (tgt := 15) dX10_goesText_65 (by decide) (by decide) ?_
        refine x_iconst (pc := 68) (v := 0) dX10_goesText_68 (by decide) ?_
        refine x_ireturn (pc := 69) dX10_goesText_69 ⟨_, rfl, by decide⟩ ⟨Nat.le_refl _, Nat.le_refl _⟩ ?_
        first
        | exact KF c48 (Or.inr g1)
        | exact KF c48 (Or.inl (by omega))
  · skip
    refine x_iconst (pc := 51) (v := 1) dX10_goesText_51 (by decide) ?_
    refine x_ireturn (pc := 52) dX10_goesText_52 ⟨_, rfl, by decide⟩ ⟨Nat.le_refl _, Nat.le_refl _⟩ ?_
    exact KD (by omega)

set_option maxHeartbeats 4000000 in
set_option maxRecDepth 100000 in
theorem lm_gt15 {T : xT} {n : Nat} {sh : Nat → Nat × Nat} {I : xI} {R : xR} {L : xL} {P : xPost} {M : Nat} (hM : xModel sh R M) {t : xX} (hx : XOK t) (ht : mTxt I M t) (hl : LWD I M) {p f k : Nat} (hf : f < 6) (hk : k < 8) (hp : I M 13 = nI p) (hp2 : p ≤ t.1) {s : List Int32} (hs : SGS I M 0 s) (hcn : s.length ≤ 100 * f + p) {r1 : xCQ xCL} (hr : CLR (nxX t) p r1) (KB : ∀ (q : Nat) (s2 : List Int32) (J : xI), r1 = (q, none) → q ≤ t.1 → J M 13 = nI q → SGS J M 0 (s ++ s2) → mdC M (8 * f + k) I J → P (n, sh, 0, 0) J R L (some (.int 0))) (KG : ∀ (q : Nat) (x : xCL) (sg : List Int32) (J : xI), r1 = (q, some x) → q ≤ t.1 → p + clM x ≤ q → J M 13 = nI q → J (M + 9) (8 * f + k) = nI (2 - x.1) → J (M + 10) (8 * f + k) = nI x.2.1 → SGS J M 0 (s ++ sg) → sg.length = clM x → (x.1 ≠ 0 → sg = x.2.2.2.1 ∧ J (M + 11) (8 * f + k) = nI (0 + s.length) ∧ J (M + 12) (8 * f + k) = nI (0 + s.length + sg.length)) → mdC M (8 * f + k) I J → X T zX10_goesText 6 0 0 P 40 [(0, .ref M), (1, .int (nI f)), (2, .int (nI (k + 1)))] [] (n, sh, 0, 0) (up2 J (M + 8) f (nI (k + 1))) R L)  :  X T zX10_goesText 6 0 0 P 15 [(0, .ref M), (1, .int (nI f)), (2, .int (nI k))] [] (n, sh, 0, 0) (I) R L := by
  have x100 := hx.1
  refine x_aload_n (pc := 15) dX10_goesText_15 rfl rfl ?_
  refine x_bipush (pc := 16) (v := 8) dX10_goesText_16 (by decide) ?_
  refine x_iload_n (pc := 18) dX10_goesText_18 rfl rfl ?_
  refine x_imuln (pc := 19) (a := 8) (b := f) dX10_goesText_19 ?_
  refine x_iload_n (pc := 20) dX10_goesText_20 rfl rfl ?_
  refine x_iaddn (pc := 21) (a := (8 * f)) (b := k) dX10_goesText_21 ?_
  refine x_callV (pc := 22) (As := [.int _]) dX10_goesText_22 km_X10_takesClause kv_X10_takesClause kl_RX10_289 hM.s rfl rfl (by decide) ⟨Nat.le_refl _, Nat.le_refl _⟩ rfl (Nat.le_of_ble_eq_true rfl) (Nat.le_of_ble_eq_true rfl) (m_takesClause (b := 0) (c := 8 * f + k) (B0 := 100 * f) hM hx ht hl (by omega) (by omega) hp hp2 hs (by omega) hr (fun q x J h1 h2 h3 h4 h5 h6 h7 f1 => ⟨rfl, rfl, ?_⟩) (fun q s2 J h1 h2 h3 h4 f1 => ⟨rfl, rfl, ?_⟩))
  · skip
    refine x_if_ne_t (pc := 25) (tgt := 30) dX10_goesText_25 (by decide) (by decide) ?_
    refine x_iinc (pc := 30) (v := nI (k + 1)) (lv' := [(0, .ref M), (1, .int (nI f)), (2, .int (nI (k + 1)))]) dX10_goesText_30 rfl (nI_1 _) (by decide) rfl ?_
    refine x_aload_n (pc := 33) dX10_goesText_33 rfl rfl ?_
    refine x_getr (pc := 34) dX10_goesText_34 kf_RX10_59 hM.s rfl hM.f7 ?_
    refine x_iload_n (pc := 37) dX10_goesText_37 rfl rfl ?_
    refine x_iload_n (pc := 38) dX10_goesText_38 rfl rfl ?_
    refine x_iastn (pc := 39) (a := f) dX10_goesText_39 hM.s7 (by omega) (by omega) ?_
    obtain ⟨sg, y1, y2, y3⟩ := h7
    exact KG q x sg J h1 h2 h3 h4 h5 h6 y1 y2 y3 f1
  · skip
    refine x_if_ne_f (pc := 25) (tgt := 30) dX10_goesText_25 (by decide) (by decide) ?_
    refine x_iconst (pc := 28) (v := 0) dX10_goesText_28 (by decide) ?_
    refine x_ireturn (pc := 29) dX10_goesText_29 ⟨_, rfl, by decide⟩ ⟨Nat.le_refl _, Nat.le_refl _⟩ ?_
    exact KB q s2 J h1 h2 h3 h4 f1

set_option maxHeartbeats 4000000 in
set_option maxRecDepth 100000 in
theorem lm_goes {T : xT} {n : Nat} {sh : Nat → Nat × Nat} {R : xR} {L : xL} {P : xPost} {I0 : xI} {M : Nat} (hM : xModel sh R M) {t : xX} (hx : XOK t) (ht : mTxt I0 M t) (hl : LWD I0 M) {f : Nat} (hf : f < 6) {s0 : List Int32} {r : xCQ (List xCL)} (K1 : ∀ (acc : List xCL) (s1 : List Int32) (J : xI), r = (t.1, some acc) → J M 13 = nI t.1 → SGS J M 0 (s0 ++ s1) → (s0 ++ s1).length ≤ 100 * f + t.1 → MCL J M f (s0 ++ s1) acc → J (M + 8) f = nI acc.length → mdG M f I0 J → P (n, sh, 0, 0) J R L (some (.int 1))) (K0 : ∀ (q : Nat) (s1 : List Int32) (J : xI), r = (q, none) → q ≤ t.1 → J M 13 = nI q → SGS J M 0 (s0 ++ s1) → mdG M f I0 J → P (n, sh, 0, 0) J R L (some (.int 0))) : ∀ (m p : Nat) (acc : List xCL) (s1 : List Int32) (J : xI), RLN (nxX t) t.1 m p acc r → m + acc.length = 8 → J M 13 = nI p → p ≤ t.1 → SGS J M 0 (s0 ++ s1) → (s0 ++ s1).length ≤ 100 * f + p → MCL J M f (s0 ++ s1) acc → mdG M f I0 J → X T zX10_goesText 6 0 0 P 15 [(0, .ref M), (1, .int (nI f)), (2, .int (nI acc.length))] [] (n, sh, 0, 0) J R L := by
  have x100 := hx.1
  intro m
  induction m with
  | zero => exact fun p acc s1 J h => h.elim
  | succ m ih =>
    intro p acc s1 J hr hm hp hp2 hs hcn hc hg
    obtain ⟨c1, hc1, hr⟩ := hr
    refine lm_gt15 hM hx (ht.keepG hg) (hl.keepG hg) hf (by omega) hp hp2 hs hcn hc1 (fun q s2 J1 e1 hq e2 h2 f1 => ?_) (fun q x sg J1 e1 hq hpq e2 h1 h2 h3 h4 h5 f1 => ?_)
    · subst e1
      have hr : r = (q, none) := hr
      rw [List.append_assoc] at h2
      exact K0 q (s1 ++ s2) J1 hr hq e2 h2 (hg.tr (f1.g (by omega)))
    · subst e1
      have hr : RTL (nxX t) t.1 (RLN (nxX t) t.1 m) m q (acc ++ [x]) r := hr
      have hlen : (acc ++ [x]).length = acc.length + 1 := by rw [List.length_append]; rfl
      have hc2 := hc.snoc f1 h1 h2 h5
      have hls : (s0 ++ s1 ++ sg).length = (s0 ++ s1).length + sg.length := List.length_append
      have hgg : mdG M f I0 (up2 J1 (M + 8) f (nI (acc.length + 1))) := hg.tr ((f1.g (by omega)).tr mdG.cl)
      have h3' : SGS (up2 J1 (M + 8) f (nI (acc.length + 1))) M 0 (s0 ++ s1 ++ sg) := h3.keep (congrFun (up2_row (by omega)) 23) (up2_row (by omega))
      have hc3 : MCL (up2 J1 (M + 8) f (nI (acc.length + 1))) M f (s0 ++ s1 ++ sg) (acc ++ [x]) := hc2.keep (fun a p1 p2 => up2_row (by omega))
      have e3 : up2 J1 (M + 8) f (nI (acc.length + 1)) M 13 = nI q := (congrFun (up2_row (by omega)) 13).trans e2
      rw [List.append_assoc] at h3' hc3 hls
      unfold RTL at hr
      refine lm_gt40 hM hx (ht.keepG hgg) e3 hq (by omega) (fun z => ?_) (fun z y => ?_) (fun z y w => ?_)
      · rw [if_pos z, z] at hr
        rw [z] at e3
        exact K1 (acc ++ [x]) (s1 ++ sg) _ hr e3 h3' (by omega) hc3 (by rw [hlen]; exact up2_s) hgg
      · rw [if_neg z] at hr
        have hr2 : r = (q, none) := by
          by_cases w : m = 0
          · rw [if_pos w] at hr
            exact hr
          · rw [if_neg w, if_neg (y.resolve_left (by omega))] at hr
            exact hr
        exact K0 q (s1 ++ sg) _ hr2 hq e3 h3' hgg
      · rw [if_neg z, if_neg (show ¬ m = 0 by omega), if_pos w] at hr
        have hlt : q < t.1 := nxX_lt w (by decide)
        have h9 := ih (q + 1) (acc ++ [x]) (s1 ++ sg) _ hr (by omega) (up2_s (f := up2 J1 (M + 8) f (nI (acc.length + 1))) (a := M) (k := 13) (x := nI (q + 1))) (by omega) (h3'.keep (up2_k (by decide)) (up2_row (by omega))) (by omega) (hc3.keep (fun a p1 p2 => up2_row (by omega))) (hgg.tr (mdG.fld (by decide)))
        rw [hlen] at h9
        exact h9

set_option maxHeartbeats 4000000 in
set_option maxRecDepth 100000 in
theorem m_goesText {T : xT} {n : Nat} {sh : Nat → Nat × Nat} {I : xI} {R : xR} {L : xL} {P : xPost} {M : Nat} (hM : xModel sh R M) {t : xX} (hx : XOK t) (ht : mTxt I M t) (hl : LWD I M) {f : Nat} (hf : f < 6) {s0 : List Int32} (hs0 : s0.length = 100 * f) (hsi : ∀ i x, s0[i]? = some x → I (M + 13) i = x) {r : xCQ (List xCL)} (hr : RLN (nxX t) t.1 8 0 [] r) (K1 : ∀ (acc : List xCL) (s1 : List Int32) (J : xI), r = (t.1, some acc) → J M 13 = nI t.1 → SGS J M 0 (s0 ++ s1) → (s0 ++ s1).length ≤ 100 * f + t.1 → MCL J M f (s0 ++ s1) acc → J (M + 8) f = nI acc.length → mdG M f I J → P (n, sh, 0, 0) J R L (some (.int 1))) (K0 : ∀ (q : Nat) (s1 : List Int32) (J : xI), r = (q, none) → q ≤ t.1 → J M 13 = nI q → SGS J M 0 (s0 ++ s1) → mdG M f I J → P (n, sh, 0, 0) J R L (some (.int 0)))  : XM T zX10_goesText 6 [.ref M, .int (nI f)] n sh I R L P := by
  refine x_aload_n (pc := 0) dX10_goesText_0 rfl rfl ?_
  refine x_iconst (pc := 1) (v := 0) dX10_goesText_1 (by decide) ?_
  refine x_put (pc := 2) dX10_goesText_2 kf_RX10_50 hM.s rfl (Or.inl kb_10_13) ?_
  refine x_aload_n (pc := 5) dX10_goesText_5 rfl rfl ?_
  refine x_bipush (pc := 6) (v := 100) dX10_goesText_6 (by decide) ?_
  refine x_iload_n (pc := 8) dX10_goesText_8 rfl rfl ?_
  refine x_imuln (pc := 9) (a := 100) (b := f) dX10_goesText_9 ?_
  refine x_put (pc := 10) dX10_goesText_10 kf_RX10_80 hM.s rfl (Or.inl kb_10_23) ?_
  refine x_iconst (pc := 13) (v := 0) dX10_goesText_13 (by decide) ?_
  refine x_istore_n (pc := 14) (lv' := [(0, .ref M), (1, .int (nI f)), (2, .int 0)]) dX10_goesText_14 rfl (by decide) rfl ?_
  have hg : mdG M f I (up2 (up2 I M 13 0) M 23 (nI (100 * f))) := (mdG.fld (by decide)).tr (mdG.fld (by decide))
  refine lm_goes (s0 := s0) hM hx (ht.keepG hg) (hl.keepG hg) hf (fun acc s1 J a1 a2 a3 a4 a5 a6 a7 => K1 acc s1 J a1 a2 a3 a4 a5 a6 (hg.tr a7)) (fun q s1 J a1 a2 a3 a4 a5 => K0 q s1 J a1 a2 a3 a4 (hg.tr a5)) 8 0 [] [] _ hr rfl ((up2_k (by decide)).trans up2_s) (Nat.zero_le _) ⟨?_, fun i x hi => ?_⟩ ?_ (fun i x hi => by cases hi) ⟨fun _ _ => rfl, fun _ _ _ _ _ _ => rfl, fun _ _ _ _ _ => rfl, fun _ _ => rfl⟩
  · rw [List.append_nil, hs0, Nat.zero_add]
    exact up2_s
  · rw [List.append_nil] at hi
    rw [Nat.zero_add]
    exact (congrFun ((up2_row (by omega)).trans (up2_row (by omega))) i).trans (hsi i x hi)
  · rw [List.append_nil, hs0]
    omega

