/-! ===== the text: the reference settles signs ===== -/
set_option maxHeartbeats 4000000 in
set_option maxRecDepth 100000 in
theorem lm_swE {T : xT} {n : Nat} {sh : Nat → Nat × Nat} {I : xI} {R : xR} {L : xL} {P : xPost} {M b : Nat} (hM : xModel sh R M) {q : Nat} (hw : WTS I M []) (K : P (n, sh, 0, 0) I R L none)  :  X T zX10_settle 1 0 0 P 0 [(0, .ref M), (1, .int (nI q))] [] (n, sh, 0, 0) (I) R L := by
  refine x_aload_n (pc := 0) dX10_settle_0 rfl rfl ?_
  refine x_get (pc := 1) dX10_settle_1 kf_RX10_83 hM.s rfl ?_
  rw [show I M 24 = 0 from hw.1]
  refine x_if_le_t (pc := 4) (tgt := 72) dX10_settle_4 (by decide) (by decide) ?_
  refine x_return (pc := 72) dX10_settle_72 rfl ⟨Nat.le_refl _, Nat.le_refl _⟩ ?_
  exact K

set_option maxHeartbeats 4000000 in
set_option maxRecDepth 100000 in
theorem lm_swC {T : xT} {n : Nat} {sh : Nat → Nat × Nat} {I : xI} {R : xR} {L : xL} {P : xPost} {M b : Nat} (hM : xModel sh R M) {q c : Nat} {S : List Nat} (hq : q < 128) (hw : WTS I M (c :: S)) (h : ¬ (c = 38 ∨ (c = 124 ∧ q ≠ 38))) (K : P (n, sh, 0, 0) I R L none)  :  X T zX10_settle 1 0 0 P 0 [(0, .ref M), (1, .int (nI q))] [] (n, sh, 0, 0) (I) R L := by
  have hw2 : S.length + 1 ≤ 100 := hw.2.1
  have hc7 := (hw.2.2 0 c rfl).1
  refine x_aload_n (pc := 0) dX10_settle_0 rfl rfl ?_
  refine x_get (pc := 1) dX10_settle_1 kf_RX10_83 hM.s rfl ?_
  rw [show I M 24 = nI (S.length + 1) from hw.1]
  refine x_if_le_f (pc := 4) (tgt := 72) dX10_settle_4 (by decide) (nI_nle0 (by omega) (by omega)) ?_
  refine x_aload_n (pc := 7) dX10_settle_7 rfl rfl ?_
  refine x_getr (pc := 8) dX10_settle_8 kf_RX10_77 hM.s rfl hM.f13 ?_
  refine x_aload_n (pc := 11) dX10_settle_11 rfl rfl ?_
  refine x_get (pc := 12) dX10_settle_12 kf_RX10_83 hM.s rfl ?_
  rw [show I M 24 = nI (S.length + 1) from hw.1]
  refine x_iconst (pc := 15) (v := 1) dX10_settle_15 (by decide) ?_
  refine x_isub (pc := 16) dX10_settle_16 ?_
  rw [nI_dec (by omega)]
  refine x_ialdn (pc := 17) (a := S.length) dX10_settle_17 hM.s13 (by omega) (by omega) ?_
  rw [show I (M + 14) S.length = nI c from (hw.2.2 0 c rfl).2]
  refine x_bipush (pc := 18) (v := 38) dX10_settle_18 (by decide) ?_
  refine x_icmpn_eq (pc := 20) (tgt := 45) (a := c) (b := 38) dX10_settle_20 (by decide) (by omega) (by decide) (fun c20 => ?_) (fun c20 => ?_)
  · skip
    exact (h (by omega)).elim
  · skip
    refine x_aload_n (pc := 23) dX10_settle_23 rfl rfl ?_
    refine x_getr (pc := 24) dX10_settle_24 kf_RX10_77 hM.s rfl hM.f13 ?_
    refine x_aload_n (pc := 27) dX10_settle_27 rfl rfl ?_
    refine x_get (pc := 28) dX10_settle_28 kf_RX10_83 hM.s rfl ?_
    rw [show I M 24 = nI (S.length + 1) from hw.1]
    refine x_iconst (pc := 31) (v := 1) dX10_settle_31 (by decide) ?_
    refine x_isub (pc := 32) dX10_settle_32 ?_
    rw [nI_dec (by omega)]
    refine x_ialdn (pc := 33) (a := S.length) dX10_settle_33 hM.s13 (by omega) (by omega) ?_
    rw [show I (M + 14) S.length = nI c from (hw.2.2 0 c rfl).2]
    refine x_bipush (pc := 34) (v := 124) dX10_settle_34 (by decide) ?_
    refine x_icmpn_ne (pc := 36) (tgt := 72) (a := c) (b := 124) dX10_settle_36 (by decide) (by omega) (by decide) (fun c36 => ?_) (fun c36 => ?_)
    · skip
      refine x_return (pc := 72) dX10_settle_72 rfl ⟨Nat.le_refl _, Nat.le_refl _⟩ ?_
      exact K
    · skip
      refine x_iload_n (pc := 39) dX10_settle_39 rfl rfl ?_
      refine x_bipush (pc := 40) (v := 38) dX10_settle_40 (by decide) ?_
      refine x_icmpn_eq (pc := 42) (tgt := 72) (a := q) (b := 38) dX10_settle_42 (by decide) (by omega) (by decide) (fun c42 => ?_) (fun c42 => ?_)
      · skip
        refine x_return (pc := 72) dX10_settle_72 rfl ⟨Nat.le_refl _, Nat.le_refl _⟩ ?_
        exact K
      · skip
        exact (h (by omega)).elim

set_option maxHeartbeats 4000000 in
set_option maxRecDepth 100000 in
theorem lm_swP {T : xT} {n : Nat} {sh : Nat → Nat × Nat} {I : xI} {R : xR} {L : xL} {P : xPost} {M b : Nat} (hM : xModel sh R M) {q c : Nat} {S : List Nat} {s : List Int32} (hq : q < 128) (hw : WTS I M (c :: S)) (h : c = 38 ∨ (c = 124 ∧ q ≠ 38)) (hs : SGS I M b s) (hb : b + s.length < 600) (K : ∀ J : xI, WTS J M S → SGS J M b (s ++ [-nI c]) → J M 25 = I M 25 → mdW M I J → X T zX10_settle 1 0 0 P 0 [(0, .ref M), (1, .int (nI q))] [] (n, sh, 0, 0) J R L)  :  X T zX10_settle 1 0 0 P 0 [(0, .ref M), (1, .int (nI q))] [] (n, sh, 0, 0) (I) R L := by
  have hw2 : S.length + 1 ≤ 100 := hw.2.1
  have hc7 := (hw.2.2 0 c rfl).1
  have hs2 : SGS (up2 I M 24 (nI S.length)) M b s := hs.keep (up2_k (by decide)) (up2_row (by omega))
  refine x_aload_n (pc := 0) dX10_settle_0 rfl rfl ?_
  refine x_get (pc := 1) dX10_settle_1 kf_RX10_83 hM.s rfl ?_
  rw [show I M 24 = nI (S.length + 1) from hw.1]
  refine x_if_le_f (pc := 4) (tgt := 72) dX10_settle_4 (by decide) (nI_nle0 (by omega) (by omega)) ?_
  refine x_aload_n (pc := 7) dX10_settle_7 rfl rfl ?_
  refine x_getr (pc := 8) dX10_settle_8 kf_RX10_77 hM.s rfl hM.f13 ?_
  refine x_aload_n (pc := 11) dX10_settle_11 rfl rfl ?_
  refine x_get (pc := 12) dX10_settle_12 kf_RX10_83 hM.s rfl ?_
  rw [show I M 24 = nI (S.length + 1) from hw.1]
  refine x_iconst (pc := 15) (v := 1) dX10_settle_15 (by decide) ?_
  refine x_isub (pc := 16) dX10_settle_16 ?_
  rw [nI_dec (by omega)]
  refine x_ialdn (pc := 17) (a := S.length) dX10_settle_17 hM.s13 (by omega) (by omega) ?_
  rw [show I (M + 14) S.length = nI c from (hw.2.2 0 c rfl).2]
  refine x_bipush (pc := 18) (v := 38) dX10_settle_18 (by decide) ?_
  refine x_icmpn_eq (pc := 20) (tgt := 45) (a := c) (b := 38) dX10_settle_20 (by decide) (by omega) (by decide) (fun c20 => ?_) (fun c20 => ?_)
  · skip
    refine x_aload_n (pc := 45) dX10_settle_45 rfl rfl ?_
    refine x_dup (pc := 46) dX10_settle_46 rfl ?_
    refine x_get (pc := 47) dX10_settle_47 kf_RX10_83 hM.s rfl ?_
    rw [show I M 24 = nI (S.length + 1) from hw.1]
    refine x_iconst (pc := 50) (v := 1) dX10_settle_50 (by decide) ?_
    refine x_isub (pc := 51) dX10_settle_51 ?_
    rw [nI_dec (by omega)]
    refine x_put (pc := 52) dX10_settle_52 kf_RX10_83 hM.s rfl (Or.inl kb_10_24) ?_
    refine x_aload_n (pc := 55) dX10_settle_55 rfl rfl ?_
    refine x_aload_n (pc := 56) dX10_settle_56 rfl rfl ?_
    refine x_getr (pc := 57) dX10_settle_57 kf_RX10_77 hM.s rfl hM.f13 ?_
    refine x_aload_n (pc := 60) dX10_settle_60 rfl rfl ?_
    refine x_get (pc := 61) dX10_settle_61 kf_RX10_83 hM.s rfl ?_
    rw [up2_s]
    refine x_ialdn (pc := 64) (a := S.length) dX10_settle_64 hM.s13 (by omega) (by omega) ?_
    rw [show up2 I M 24 (nI S.length) (M + 14) S.length = nI c from (congrFun (up2_row (by omega)) _).trans (hw.2.2 0 c rfl).2]
    refine x_ineg (pc := 65) dX10_settle_65 ?_
    refine x_callV (pc := 66) (As := [.int _]) dX10_settle_66 km_X10_put kv_X10_put kl_RX10_260 hM.s rfl rfl (by decide) ⟨Nat.le_refl _, Nat.le_refl _⟩ rfl (Nat.le_of_ble_eq_true rfl) (Nat.le_of_ble_eq_true rfl) (m_put hM hs2 hb (fun J1 s1 f1 g1 => ⟨rfl, rfl, ?_⟩))
    refine x_goto (pc := 69) (tgt := 0) dX10_settle_69 (by decide) ?_
    exact K _ (hw.pop ((g1 24 (by decide)).trans up2_s) ((f1 _ (by omega) (by omega)).trans (up2_row (by omega)))) s1 ((g1 25 (by decide)).trans (up2_k (by decide))) ⟨fun a p q => (f1 a p q).trans (up2_row p), fun k p q r => (g1 k p).trans (up2_k q)⟩
  · skip
    refine x_aload_n (pc := 23) dX10_settle_23 rfl rfl ?_
    refine x_getr (pc := 24) dX10_settle_24 kf_RX10_77 hM.s rfl hM.f13 ?_
    refine x_aload_n (pc := 27) dX10_settle_27 rfl rfl ?_
    refine x_get (pc := 28) dX10_settle_28 kf_RX10_83 hM.s rfl ?_
    rw [show I M 24 = nI (S.length + 1) from hw.1]
    refine x_iconst (pc := 31) (v := 1) dX10_settle_31 (by decide) ?_
    refine x_isub (pc := 32) dX10_settle_32 ?_
    rw [nI_dec (by omega)]
    refine x_ialdn (pc := 33) (a := S.length) dX10_settle_33 hM.s13 (by omega) (by omega) ?_
    rw [show I (M + 14) S.length = nI c from (hw.2.2 0 c rfl).2]
    refine x_bipush (pc := 34) (v := 124) dX10_settle_34 (by decide) ?_
    refine x_icmpn_ne (pc := 36) (tgt := 72) (a := c) (b := 124) dX10_settle_36 (by decide) (by omega) (by decide) (fun c36 => ?_) (fun c36 => ?_)
    · skip
      refine x_return (pc := 72) dX10_settle_72 rfl ⟨Nat.le_refl _, Nat.le_refl _⟩ ?_
      exact absurd h (by omega)
    · skip
      refine x_iload_n (pc := 39) dX10_settle_39 rfl rfl ?_
      refine x_bipush (pc := 40) (v := 38) dX10_settle_40 (by decide) ?_
      refine x_icmpn_eq (pc := 42) (tgt := 72) (a := q) (b := 38) dX10_settle_42 (by decide) (by omega) (by decide) (fun c42 => ?_) (fun c42 => ?_)
      · skip
        refine x_return (pc := 72) dX10_settle_72 rfl ⟨Nat.le_refl _, Nat.le_refl _⟩ ?_
        exact absurd h (by omega)
      · skip
        refine x_aload_n (pc := 45) dX10_settle_45 rfl rfl ?_
        refine x_dup (pc := 46) dX10_settle_46 rfl ?_
        refine x_get (pc := 47) dX10_settle_47 kf_RX10_83 hM.s rfl ?_
        rw [show I M 24 = nI (S.length + 1) from hw.1]
        refine x_iconst (pc := 50) (v := 1) dX10_settle_50 (by decide) ?_
        refine x_isub (pc := 51) dX10_settle_51 ?_
        rw [nI_dec (by omega)]
        refine x_put (pc := 52) dX10_settle_52 kf_RX10_83 hM.s rfl (Or.inl kb_10_24) ?_
        refine x_aload_n (pc := 55) dX10_settle_55 rfl rfl ?_
        refine x_aload_n (pc := 56) dX10_settle_56 rfl rfl ?_
        refine x_getr (pc := 57) dX10_settle_57 kf_RX10_77 hM.s rfl hM.f13 ?_
        refine x_aload_n (pc := 60) dX10_settle_60 rfl rfl ?_
        refine x_get (pc := 61) dX10_settle_61 kf_RX10_83 hM.s rfl ?_
        rw [up2_s]
        refine x_ialdn (pc := 64) (a := S.length) dX10_settle_64 hM.s13 (by omega) (by omega) ?_
        rw [show up2 I M 24 (nI S.length) (M + 14) S.length = nI c from (congrFun (up2_row (by omega)) _).trans (hw.2.2 0 c rfl).2]
        refine x_ineg (pc := 65) dX10_settle_65 ?_
        refine x_callV (pc := 66) (As := [.int _]) dX10_settle_66 km_X10_put kv_X10_put kl_RX10_260 hM.s rfl rfl (by decide) ⟨Nat.le_refl _, Nat.le_refl _⟩ rfl (Nat.le_of_ble_eq_true rfl) (Nat.le_of_ble_eq_true rfl) (m_put hM hs2 hb (fun J1 s1 f1 g1 => ⟨rfl, rfl, ?_⟩))
        refine x_goto (pc := 69) (tgt := 0) dX10_settle_69 (by decide) ?_
        exact K _ (hw.pop ((g1 24 (by decide)).trans up2_s) ((f1 _ (by omega) (by omega)).trans (up2_row (by omega)))) s1 ((g1 25 (by decide)).trans (up2_k (by decide))) ⟨fun a p q => (f1 a p q).trans (up2_row p), fun k p q r => (g1 k p).trans (up2_k q)⟩

set_option maxHeartbeats 4000000 in
set_option maxRecDepth 100000 in
theorem lm_settle {T : xT} {n : Nat} {sh : Nat → Nat × Nat} {R : xR} {L : xL} {P : xPost} {M b : Nat} (hM : xModel sh R M) {q : Nat} (hq : q < 128) : ∀ (S : List Nat) (I : xI) (s : List Int32), WTS I M S → SGS I M b s → b + s.length + seN q S ≤ 600 → (∀ J : xI, WTS J M (S.drop (seN q S)) → SGS J M b (s ++ emS q S) → J M 25 = I M 25 → mdW M I J → P (n, sh, 0, 0) J R L none) → X T zX10_settle 1 0 0 P 0 [(0, .ref M), (1, .int (nI q))] [] (n, sh, 0, 0) I R L := by
  intro S
  induction S with
  | nil =>
    intro I s hw hs hb K
    exact lm_swE (b := b) hM hw (K I hw (by rw [show s ++ emS q [] = s from List.append_nil s]; exact hs) rfl mdW.rf)
  | cons c S ih =>
    intro I s hw hs hb K
    by_cases z : c = 38 ∨ (c = 124 ∧ q ≠ 38)
    · have e := seN_p (S := S) z
      rw [e] at hb K
      have hlen : (s ++ [-nI c]).length = s.length + 1 := by rw [List.length_append]; rfl
      refine lm_swP hM hq hw z hs (by omega) (fun J w1 s1 o1 f1 => ih J (s ++ [-nI c]) w1 s1 (by omega) (fun J2 w2 s2 o2 f2 => K J2 w2 ?_ (o2.trans o1) (f1.tr f2)))
      rw [emS_p z, ← app1]
      exact s2
    · have e := seN_z (S := S) z
      rw [e] at K
      exact lm_swC (b := b) hM hq hw z (K I hw (by rw [emS_0 e, List.append_nil]; exact hs) rfl mdW.rf)

