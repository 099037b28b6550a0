/-! ===== the text: the reference's pile of waiting signs ===== -/
def WTS (I : xI) (M : Nat) (S : List Nat) : Prop := I M 24 = nI S.length ∧ S.length ≤ 100 ∧ ∀ i x, S[i]? = some x → x < 128 ∧ I (M + 14) (S.length - 1 - i) = nI x
def mdW (M : Nat) (I J : xI) : Prop := (∀ a, a ≠ M → a ≠ M + 13 → J a = I a) ∧ ∀ k, k ≠ 23 → k ≠ 24 → k ≠ 25 → J M k = I M k
theorem mdW.rf {M : Nat} {I : xI} : mdW M I I := ⟨fun _ _ _ => rfl, fun _ _ _ _ => rfl⟩
theorem mdW.tr {M : Nat} {I J J' : xI} (h : mdW M I J) (h' : mdW M J J') : mdW M I J' := ⟨fun a p q => (h'.1 a p q).trans (h.1 a p q), fun k p q r => (h'.2 k p q r).trans (h.2 k p q r)⟩
theorem WTS.pop {I J : xI} {M c : Nat} {S : List Nat} (h : WTS I M (c :: S)) (e : J M 24 = nI S.length) (f : J (M + 14) = I (M + 14)) : WTS J M S := by
  have h2 : S.length + 1 ≤ 100 := h.2.1
  refine ⟨e, by omega, fun i x hi => ?_⟩
  have g := h.2.2 (i + 1) x hi
  have hlt := (List.getElem?_eq_some_iff.mp hi).1
  refine ⟨g.1, (congrFun f _).trans ?_⟩
  have e2 : (c :: S).length - 1 - (i + 1) = S.length - 1 - i := by
    show S.length + 1 - 1 - (i + 1) = _
    omega
  rw [← e2]
  exact g.2
theorem nI_dec {a : Nat} (h : a + 1 < 2 ^ 31) : nI (a + 1) - 1 = nI a := pk_sub (a := a + 1) (b := 1) (by omega)

set_option maxHeartbeats 4000000 in
set_option maxRecDepth 100000 in
theorem lm_whC {T : xT} {n : Nat} {sh : Nat → Nat × Nat} {I : xI} {R : xR} {L : xL} {P : xPost} {M b : Nat} (hM : xModel sh R M) {S : List Nat} {c : Nat} (hw : WTS I M (c :: S)) (hc : c ≠ 33) (K : P (n, sh, 0, 0) I R L none)  :  X T zX10_whole 1 0 0 P 0 [(0, .ref M)] [] (n, sh, 0, 0) (I) R L := by
  have hw2 : S.length + 1 ≤ 100 := hw.2.1
  have hc7 := (hw.2.2 0 c rfl).1
  refine x_aload_n (pc := 0) dX10_whole_0 rfl rfl ?_
  refine x_get (pc := 1) dX10_whole_1 kf_RX10_83 hM.s rfl ?_
  rw [show I M 24 = nI (S.length + 1) from hw.1]
  refine x_if_le_f (pc := 4) (tgt := 52) dX10_whole_4 (by decide) (nI_nle0 (by omega) (by omega)) ?_
  refine x_aload_n (pc := 7) dX10_whole_7 rfl rfl ?_
  refine x_getr (pc := 8) dX10_whole_8 kf_RX10_77 hM.s rfl hM.f13 ?_
  refine x_aload_n (pc := 11) dX10_whole_11 rfl rfl ?_
  refine x_get (pc := 12) dX10_whole_12 kf_RX10_83 hM.s rfl ?_
  rw [show I M 24 = nI (S.length + 1) from hw.1]
  refine x_iconst (pc := 15) (v := 1) dX10_whole_15 (by decide) ?_
  refine x_isub (pc := 16) dX10_whole_16 ?_
  rw [nI_dec (by omega)]
  refine x_ialdn (pc := 17) (a := S.length) dX10_whole_17 hM.s13 (by omega) (by omega) ?_
  rw [show I (M + 14) S.length = nI c from (hw.2.2 0 c rfl).2]
  refine x_bipush (pc := 18) (v := 33) dX10_whole_18 (by decide) ?_
  refine x_icmpn_ne_t (pc := 20) (tgt := 52) (a := c) (b := 33) dX10_whole_20 (by decide) (by omega) (by decide) (hc) ?_
  refine x_return (pc := 52) dX10_whole_52 rfl ⟨Nat.le_refl _, Nat.le_refl _⟩ ?_
  exact K

set_option maxHeartbeats 4000000 in
set_option maxRecDepth 100000 in
theorem lm_whE {T : xT} {n : Nat} {sh : Nat → Nat × Nat} {I : xI} {R : xR} {L : xL} {P : xPost} {M b : Nat} (hM : xModel sh R M) (hw : WTS I M []) (K : P (n, sh, 0, 0) I R L none)  :  X T zX10_whole 1 0 0 P 0 [(0, .ref M)] [] (n, sh, 0, 0) (I) R L := by
  refine x_aload_n (pc := 0) dX10_whole_0 rfl rfl ?_
  refine x_get (pc := 1) dX10_whole_1 kf_RX10_83 hM.s rfl ?_
  rw [show I M 24 = 0 from hw.1]
  refine x_if_le_t (pc := 4) (tgt := 52) dX10_whole_4 (by decide) (by decide) ?_
  refine x_return (pc := 52) dX10_whole_52 rfl ⟨Nat.le_refl _, Nat.le_refl _⟩ ?_
  exact K

set_option maxHeartbeats 4000000 in
set_option maxRecDepth 100000 in
theorem lm_whP {T : xT} {n : Nat} {sh : Nat → Nat × Nat} {I : xI} {R : xR} {L : xL} {P : xPost} {M b : Nat} (hM : xModel sh R M) {S : List Nat} {s : List Int32} {o : Nat} (hw : WTS I M (33 :: S)) (hs : SGS I M b s) (hb : b + s.length < 600) (ho : I M 25 = nI (o + 1)) (ho2 : o < 200) (K : ∀ J : xI, WTS J M S → SGS J M b (s ++ [-33]) → J M 25 = nI o → mdW M I J → X T zX10_whole 1 0 0 P 0 [(0, .ref M)] [] (n, sh, 0, 0) J R L)  :  X T zX10_whole 1 0 0 P 0 [(0, .ref M)] [] (n, sh, 0, 0) (I) R L := by
  have hw2 : S.length + 1 ≤ 100 := hw.2.1
  refine x_aload_n (pc := 0) dX10_whole_0 rfl rfl ?_
  refine x_get (pc := 1) dX10_whole_1 kf_RX10_83 hM.s rfl ?_
  rw [show I M 24 = nI (S.length + 1) from hw.1]
  refine x_if_le_f (pc := 4) (tgt := 52) dX10_whole_4 (by decide) (nI_nle0 (by omega) (by omega)) ?_
  refine x_aload_n (pc := 7) dX10_whole_7 rfl rfl ?_
  refine x_getr (pc := 8) dX10_whole_8 kf_RX10_77 hM.s rfl hM.f13 ?_
  refine x_aload_n (pc := 11) dX10_whole_11 rfl rfl ?_
  refine x_get (pc := 12) dX10_whole_12 kf_RX10_83 hM.s rfl ?_
  rw [show I M 24 = nI (S.length + 1) from hw.1]
  refine x_iconst (pc := 15) (v := 1) dX10_whole_15 (by decide) ?_
  refine x_isub (pc := 16) dX10_whole_16 ?_
  rw [nI_dec (by omega)]
  refine x_ialdn (pc := 17) (a := S.length) dX10_whole_17 hM.s13 (by omega) (by omega) ?_
  rw [show I (M + 14) S.length = 33 from (hw.2.2 0 33 rfl).2]
  refine x_bipush (pc := 18) (v := 33) dX10_whole_18 (by decide) ?_
  refine x_icmp_ne_f (pc := 20) (tgt := 52) dX10_whole_20 (by decide) (by decide) ?_
  refine x_aload_n (pc := 23) dX10_whole_23 rfl rfl ?_
  refine x_bipush (pc := 24) (v := -33) dX10_whole_24 (by decide) ?_
  refine x_callV (pc := 26) (As := [.int _]) dX10_whole_26 km_X10_put kv_X10_put kl_RX10_260 hM.s rfl rfl (by decide) ⟨Nat.le_refl _, Nat.le_refl _⟩ rfl (Nat.le_of_ble_eq_true rfl) (Nat.le_of_ble_eq_true rfl) (m_put hM hs hb (fun J1 s1 f1 g1 => ⟨rfl, rfl, ?_⟩))
  refine x_aload_n (pc := 29) dX10_whole_29 rfl rfl ?_
  refine x_dup (pc := 30) dX10_whole_30 rfl ?_
  refine x_get (pc := 31) dX10_whole_31 kf_RX10_83 hM.s rfl ?_
  rw [show J1 M 24 = nI (S.length + 1) from (g1 24 (by decide)).trans hw.1]
  refine x_iconst (pc := 34) (v := 1) dX10_whole_34 (by decide) ?_
  refine x_isub (pc := 35) dX10_whole_35 ?_
  rw [nI_dec (by omega)]
  refine x_put (pc := 36) dX10_whole_36 kf_RX10_83 hM.s rfl (Or.inl kb_10_24) ?_
  refine x_aload_n (pc := 39) dX10_whole_39 rfl rfl ?_
  refine x_dup (pc := 40) dX10_whole_40 rfl ?_
  refine x_get (pc := 41) dX10_whole_41 kf_RX10_86 hM.s rfl ?_
  rw [show up2 J1 M 24 (nI S.length) M 25 = nI (o + 1) from (up2_k (by decide)).trans ((g1 25 (by decide)).trans ho)]
  refine x_iconst (pc := 44) (v := 1) dX10_whole_44 (by decide) ?_
  refine x_isub (pc := 45) dX10_whole_45 ?_
  rw [nI_dec (by omega)]
  refine x_put (pc := 46) dX10_whole_46 kf_RX10_86 hM.s rfl (Or.inl kb_10_25) ?_
  refine x_goto (pc := 49) (tgt := 0) dX10_whole_49 (by decide) ?_
  refine K _ (hw.pop ((up2_k (by decide)).trans up2_s) ((up2_row (by omega)).trans ((up2_row (by omega)).trans (f1 _ (by omega) (by omega))))) (s1.keep ((up2_k (by decide)).trans (up2_k (by decide))) ((up2_row (by omega)).trans (up2_row (by omega)))) up2_s ⟨fun a p q => (up2_row p).trans ((up2_row p).trans (f1 a p q)), fun k p q r => (up2_k r).trans ((up2_k q).trans (g1 k p))⟩

set_option maxHeartbeats 4000000 in
set_option maxRecDepth 100000 in
theorem lm_whole {T : xT} {n : Nat} {sh : Nat → Nat × Nat} {R : xR} {L : xL} {P : xPost} {M b : Nat} (hM : xModel sh R M) : ∀ (S : List Nat) (I : xI) (s : List Int32) (o : Nat), WTS I M S → SGS I M b s → b + s.length + whN S ≤ 600 → I M 25 = nI o → whN S ≤ o → o < 200 → (∀ J : xI, WTS J M (S.drop (whN S)) → SGS J M b (s ++ List.replicate (whN S) (-33)) → J M 25 = nI (o - whN S) → mdW M I J → P (n, sh, 0, 0) J R L none) → X T zX10_whole 1 0 0 P 0 [(0, .ref M)] [] (n, sh, 0, 0) I R L := by
  intro S
  induction S with
  | nil =>
    intro I s o hw hs hb ho hoo h2 K
    exact lm_whE (b := b) hM hw (K I hw (by rw [show s ++ List.replicate (whN []) (-33) = s from List.append_nil s]; exact hs) ho mdW.rf)
  | cons c S ih =>
    intro I s o hw hs hb ho hoo h2 K
    by_cases z : c = 33
    · subst z
      have e : whN (33 :: S) = whN S + 1 := if_pos rfl
      rw [e] at hb hoo K
      obtain ⟨o1, rfl⟩ : ∃ o1, o = o1 + 1 := ⟨o - 1, by omega⟩
      have hlen : (s ++ [(-33 : Int32)]).length = s.length + 1 := by rw [List.length_append]; rfl
      refine lm_whP hM hw hs (by omega) ho (by omega) (fun J w1 s1 o2 f1 => ih J (s ++ [-33]) o1 w1 s1 (by omega) o2 (by omega) (by omega) (fun J2 w2 s2 o3 f2 => K J2 w2 ?_ (by rw [show o1 + 1 - (whN S + 1) = o1 - whN S by omega]; exact o3) (f1.tr f2)))
      rw [List.append_assoc] at s2
      exact s2
    · have e : whN (c :: S) = 0 := if_neg z
      rw [e] at K
      exact lm_whC (b := b) hM hw z (K I hw (by rw [show s ++ List.replicate 0 (-33) = s from List.append_nil s]; exact hs) ho mdW.rf)

