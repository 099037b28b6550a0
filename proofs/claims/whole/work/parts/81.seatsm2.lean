/-! ===== seats: the reference, whole ===== -/
set_option maxHeartbeats 4000000 in
set_option maxRecDepth 100000 in
theorem lm_seA {T : xT} {n : Nat} {sh : Nat → Nat × Nat} {I : xI} {R : xR} {L : xL} {P : xPost} {M : Nat} (hM : xModel sh R M) {V : xV} {B : Nat} (h : MDV I M V) (hv : VOK V B) {x : Int32} (K : X T zX10_seats 3 0 0 P 42 [(0, .ref M), (1, .int x), (2, .int (nI (V 8 0 ^ V 8 0)))] [] (n, sh, 0, 0) I R L)  : ∀ (w i : Nat), i + w = V 8 0 → X T zX10_seats 3 0 0 P 21 [(0, .ref M), (1, .int x), (2, .int (nI (V 8 0 ^ i))), (3, .int (nI i))] [] (n, sh, 0, 0) (I) R L := by
  obtain ⟨v6, v12, v10, vb, vf, vw, vm, vta, vte, vod, vrg, vdi⟩ := id hv
  intro w
  induction w with
  | zero =>
    intro i hw
    have hz : i = V 8 0 := by omega
    refine x_iload_n (pc := 21) dX10_seats_21 rfl rfl ?_
    refine x_aload_n (pc := 22) dX10_seats_22 rfl rfl ?_
    refine x_get (pc := 23) dX10_seats_23 kf_RX10_7 hM.s rfl ?_
    rw [h.1]
    refine x_icmpn_ge_t (pc := 26) (tgt := 42) (a := i) (b := (V 8 0)) dX10_seats_26 (by decide) (by omega) (by omega) (by omega) ?_
    rw [hz]
    exact X.keep [0, 1, 2] rfl K
  | succ w ih =>
    intro i hw
    have hi : i < V 8 0 := by omega
    refine x_iload_n (pc := 21) dX10_seats_21 rfl rfl ?_
    refine x_aload_n (pc := 22) dX10_seats_22 rfl rfl ?_
    refine x_get (pc := 23) dX10_seats_23 kf_RX10_7 hM.s rfl ?_
    rw [h.1]
    refine x_icmpn_ge_f (pc := 26) (tgt := 42) (a := i) (b := (V 8 0)) dX10_seats_26 (by decide) (by omega) (by omega) (by omega) ?_
    refine x_iload_n (pc := 29) dX10_seats_29 rfl rfl ?_
    refine x_aload_n (pc := 30) dX10_seats_30 rfl rfl ?_
    refine x_get (pc := 31) dX10_seats_31 kf_RX10_7 hM.s rfl ?_
    rw [h.1]
    refine x_imuln (pc := 34) (a := (V 8 0 ^ i)) (b := (V 8 0)) dX10_seats_34 ?_
    rw [show V 8 0 ^ i * V 8 0 = V 8 0 ^ (i + 1) from (Nat.pow_succ _ _).symm]
    refine x_istore_n (pc := 35) (lv' := [(0, .ref M), (1, .int x), (2, .int (nI (V 8 0 ^ (i + 1)))), (3, .int (nI i))]) dX10_seats_35 rfl (by decide) rfl ?_
    refine x_iinc (pc := 36) (v := nI (i + 1)) (lv' := [(0, .ref M), (1, .int x), (2, .int (nI (V 8 0 ^ (i + 1)))), (3, .int (nI (i + 1)))]) dX10_seats_36 rfl (nI_1 _) (by decide) rfl ?_
    refine x_goto (pc := 39) (tgt := 21) dX10_seats_39 (by decide) ?_
    exact ih (i + 1) (by omega)

set_option maxHeartbeats 4000000 in
set_option maxRecDepth 100000 in
theorem lm_se239 {T : xT} {n : Nat} {sh : Nat → Nat × Nat} {I : xI} {R : xR} {L : xL} {P : xPost} {M i cs : Nat} (hi : i < cs) (hcs : cs ≤ 46656) {x y : Int32} (K : X T zX10_seats 3 0 0 P 47 [(0, .ref M), (1, .int x), (2, .int (nI cs)), (3, .int y), (4, .int (nI (i + 1)))] [] (n, sh, 0, 0) I R L)  :  X T zX10_seats 3 0 0 P 239 [(0, .ref M), (1, .int x), (2, .int (nI cs)), (3, .int y), (4, .int (nI i))] [] (n, sh, 0, 0) (I) R L := by
  refine x_iinc (pc := 239) (v := nI (i + 1)) (lv' := [(0, .ref M), (1, .int x), (2, .int (nI cs)), (3, .int y), (4, .int (nI (i + 1)))]) dX10_seats_239 rfl (nI_1 _) (by decide) rfl ?_
  refine x_goto (pc := 242) (tgt := 47) dX10_seats_242 (by decide) ?_
  exact X.keep [0, 1, 2, 3, 4] rfl K

theorem vl_ci {V : xV} {J : xI} {M : Nat} {r : Nat × (Nat → Nat)} {ci : Nat → Nat} (h : ∀ j, j < V 8 0 → ci j < V 8 0 ∧ J (M + 25) j = nI (ci j) ∧ r.2 j = V 3 (ci j)) : vl (fun j => V 3 (ci j)) (V 8 0) = vl r.2 (V 8 0) := vl_congr (V 8 0) (fun j hj => (h j hj).2.2.symm)

set_option maxHeartbeats 4000000 in
set_option maxRecDepth 100000 in
theorem lm_se71 {T : xT} {n : Nat} {sh : Nat → Nat × Nat} {I : xI} {R : xR} {L : xL} {P : xPost} {M : Nat} (hM : xModel sh R M) {V : xV} {B : Nat} (h : MDV I M V) (hv : VOK V B) {i cs : Nat} (hi : i < cs) (hcs : cs ≤ 46656) {x y : Int32} {acc : xB} (hy : VSY V) (hb : BST V (Sc V i) acc) (hs : SEM V I M acc y) (K : ∀ (J2 : xI) (acc2 : xB) (y2 : Int32), BST V (Sc V (i + 1)) acc2 → SEM V J2 M acc2 y2 → mdE M I J2 → X T zX10_seats 3 0 0 P 47 [(0, .ref M), (1, .int x), (2, .int (nI cs)), (3, .int y2), (4, .int (nI (i + 1)))] [] (n, sh, 0, 0) J2 R L)  : X T zX10_seats 3 0 0 P 71 [(0, .ref M), (1, .int x), (2, .int (nI cs)), (3, .int y), (4, .int (nI i)), (5, .int (nI i)), (6, .int 0), (7, .int 0), (8, .int (nI (V 8 0) - 1))] [] (n, sh, 0, 0) I R L := by
  have v6 := hv.1
  have hi6 : i < 46656 := by omega
  have e0 : nI (i / V 8 0 ^ 0) = nI i := by rw [Nat.pow_zero, Nat.div_one]
  suffices h9 : X T zX10_seats 3 0 0 P 71 [(0, .ref M), (1, .int x), (2, .int (nI cs)), (3, .int y), (4, .int (nI i)), (5, .int (nI (i / V 8 0 ^ 0))), (6, .int 0), (7, .int 0), (8, .int (nI (V 8 0) - 1))] [] (n, sh, 0, 0) I R L by
    rw [e0] at h9
    exact h9
  refine lm_seC hM h hv hi6 (fun J fd fj => ?_) (V 8 0) 0 (by omega) I (fun j h1 h2 => absurd h2 (by omega)) (fun _ _ => rfl)
  · have mj : mdE M I J := fun a p _ => fj a p
    have hJ := h.keepE mj
    refine lm_se147 hM hJ hv hy fd (fun hp => ?_) (fun hn => lm_se239 hi hcs (K J acc y (Sc_no hb hn) ?_ mj))
    · have hcm := csm_72 hv hp
      have htt : ∀ j, j < V 8 0 → dg (V 8 0) i j < V 8 0 ∧ J (M + 24) j = nI (dg (V 8 0) i j) := fun j hj => ⟨dg_lt (by omega), fd j hj⟩
      have hS : Sc V (i + 1) (rwS V i) := (Sc_s _).mpr (Or.inr (fun _ _ => rfl))
      cases acc with
      | none =>
        have hs : y = -1 := hs
        subst hs
        refine lm_se174n hM hJ hv hcm htt (fun J3 d3 f3 => lm_se239 hi hcs (K J3 (some (csm V (rwS V i) (V 8 0), rwS V i)) _ (BST.put hb hp rfl hS (fun t _ => Sc_s t) (fun r q => nomatch q)) ⟨rfl, dg (V 8 0) i, fun j hj => ⟨(htt j hj).1, d3 j hj, rfl⟩⟩ (fun a p1 p2 => (f3 a p2).trans (mj a p1 p2))))
      | some r =>
        obtain ⟨r1, r2⟩ := r
        obtain ⟨ey, ci, hci⟩ := hs
        have ey : y = nI r1 := ey
        subst ey
        have hr1 : r1 < 1000 := by
          have q := csm_72 hv hb.1
          rw [hb.2.2.1] at q
          exact q
        have ev := vl_ci hci
        have ev : vl (fun j => V 3 (ci j)) (V 8 0) = vl r2 (V 8 0) := ev
        refine lm_se174s hM hJ hv hcm htt hr1 (fun j hj => ⟨(hci j hj).1, (congrFun (fj (M + 25) (by omega)) j).trans (hci j hj).2.1⟩) (fun hq J3 d3 f3 => lm_se239 hi hcs (K J3 (some (csm V (rwS V i) (V 8 0), rwS V i)) _ (BST.put hb hp rfl hS (fun t _ => Sc_s t) (fun r q => ?_)) ⟨rfl, dg (V 8 0) i, fun j hj => ⟨(htt j hj).1, d3 j hj, rfl⟩⟩ (fun a p1 p2 => (f3 a p2).trans (mj a p1 p2)))) (fun hq => lm_se239 hi hcs (K J (some (r1, r2)) _ (BST.skip hb (fun t _ => Sc_s t) ?_) ⟨rfl, ci, fun j hj => ⟨(hci j hj).1, (congrFun (fj (M + 25) (by omega)) j).trans (hci j hj).2.1, (hci j hj).2.2⟩⟩ mj))
        · cases q
          rw [ev] at hq
          have hq : csm V (rwS V i) (V 8 0) < r1 ∨ (csm V (rwS V i) (V 8 0) = r1 ∧ vl (rwS V i) (V 8 0) < vl r2 (V 8 0)) := hq
          exact hq.imp id (fun z => ⟨z.1, Nat.le_of_lt z.2⟩)
        · rw [ev] at hq
          exact hq
    · cases acc with
      | none => exact hs
      | some r =>
        obtain ⟨ey, ci, hci⟩ := hs
        exact ⟨ey, ci, fun j hj => ⟨(hci j hj).1, (congrFun (fj (M + 25) (by omega)) j).trans (hci j hj).2.1, (hci j hj).2.2⟩⟩

set_option maxHeartbeats 4000000 in
set_option maxRecDepth 100000 in
theorem lm_seB {T : xT} {n : Nat} {sh : Nat → Nat × Nat} {I : xI} {R : xR} {L : xL} {P : xPost} {M : Nat} (hM : xModel sh R M) {V : xV} {B : Nat} (h : MDV I M V) (hv : VOK V B) {cs : Nat} (hcs : cs ≤ 46656) {x : Int32} (hy : VSY V) (K : ∀ (J : xI) (acc : xB) (y : Int32), BST V (Sc V cs) acc → SEM V J M acc y → mdE M I J → X T zX10_seats 3 0 0 P 245 [(0, .ref M), (1, .int x), (3, .int y)] [] (n, sh, 0, 0) J R L)  : ∀ (w i : Nat), i + w = cs → ∀ (J : xI) (acc : xB) (y : Int32), BST V (Sc V i) acc → SEM V J M acc y → mdE M I J → X T zX10_seats 3 0 0 P 47 [(0, .ref M), (1, .int x), (2, .int (nI cs)), (3, .int y), (4, .int (nI i))] [] (n, sh, 0, 0) (J) R L := by
  obtain ⟨v6, v12, v10, vb, vf, vw, vm, vta, vte, vod, vrg, vdi⟩ := id hv
  intro w
  induction w with
  | zero =>
    intro i hw J acc y hb hs fj
    have hz : i = cs := by omega
    refine x_iload (pc := 47) dX10_seats_47 rfl ?_
    refine x_iload_n (pc := 49) dX10_seats_49 rfl rfl ?_
    refine x_icmpn_ge_t (pc := 50) (tgt := 245) (a := i) (b := cs) dX10_seats_50 (by decide) (by omega) (by omega) (by omega) ?_
    subst hz
    exact X.keep [0, 1, 3] rfl (K J acc y hb hs fj)
  | succ w ih =>
    intro i hw J acc y hb hs fj
    have hi : i < cs := by omega
    refine x_iload (pc := 47) dX10_seats_47 rfl ?_
    refine x_iload_n (pc := 49) dX10_seats_49 rfl rfl ?_
    refine x_icmpn_ge_f (pc := 50) (tgt := 245) (a := i) (b := cs) dX10_seats_50 (by decide) (by omega) (by omega) (by omega) ?_
    refine x_iload (pc := 53) dX10_seats_53 rfl ?_
    refine x_istore (pc := 55) (lv' := [(0, .ref M), (1, .int x), (2, .int (nI cs)), (3, .int y), (4, .int (nI i)), (5, .int (nI i))]) dX10_seats_55 (by decide) rfl ?_
    refine x_iconst (pc := 57) (v := 0) dX10_seats_57 (by decide) ?_
    refine x_istore (pc := 58) (lv' := [(0, .ref M), (1, .int x), (2, .int (nI cs)), (3, .int y), (4, .int (nI i)), (5, .int (nI i)), (6, .int 0)]) dX10_seats_58 (by decide) rfl ?_
    refine x_iconst (pc := 60) (v := 0) dX10_seats_60 (by decide) ?_
    refine x_istore (pc := 61) (lv' := [(0, .ref M), (1, .int x), (2, .int (nI cs)), (3, .int y), (4, .int (nI i)), (5, .int (nI i)), (6, .int 0), (7, .int 0)]) dX10_seats_61 (by decide) rfl ?_
    refine x_aload_n (pc := 63) dX10_seats_63 rfl rfl ?_
    refine x_get (pc := 64) dX10_seats_64 kf_RX10_7 hM.s rfl ?_
    rw [(h.keepE fj).1]
    refine x_iconst (pc := 67) (v := 1) dX10_seats_67 (by decide) ?_
    refine x_isub (pc := 68) dX10_seats_68 ?_
    refine x_topi (fun v69 ev69 => ?_)
    refine x_istore (pc := 69) (lv' := [(0, .ref M), (1, .int x), (2, .int (nI cs)), (3, .int y), (4, .int (nI i)), (5, .int (nI i)), (6, .int 0), (7, .int 0), (8, .int v69)]) dX10_seats_69 (by decide) rfl ?_
    subst ev69
    exact lm_se71 hM (h.keepE fj) hv hi hcs hy hb hs (fun J2 acc2 y2 b2 s2 f2 => ih (i + 1) (by omega) J2 acc2 y2 b2 s2 (fun a p1 p2 => (f2 a p1 p2).trans (fj a p1 p2)))

set_option maxHeartbeats 4000000 in
set_option maxRecDepth 100000 in
theorem lm_seEn {T : xT} {n : Nat} {sh : Nat → Nat × Nat} {I : xI} {R : xR} {L : xL} {P : xPost} {M : Nat} {x : Int32} (K : P (n, sh, 0, 0) I R L (some (.int (-5))))  :  X T zX10_seats 3 0 0 P 245 [(0, .ref M), (1, .int x), (3, .int (-1))] [] (n, sh, 0, 0) (I) R L := by
  refine x_iload_n (pc := 245) dX10_seats_245 rfl rfl ?_
  refine x_if_ge_f (pc := 246) (tgt := 254) dX10_seats_246 (by decide) (by decide) ?_
  refine x_bipush (pc := 249) (v := -5) dX10_seats_249 (by decide) ?_
  refine x_goto (pc := 251) (tgt := 273) dX10_seats_251 (by decide) ?_
  refine x_ireturn (pc := 273) dX10_seats_273 ⟨_, rfl, rfl⟩ ⟨Nat.le_refl _, Nat.le_refl _⟩ ?_
  exact K

set_option maxHeartbeats 4000000 in
set_option maxRecDepth 100000 in
theorem lm_seE1 {T : xT} {n : Nat} {sh : Nat → Nat × Nat} {I : xI} {R : xR} {L : xL} {P : xPost} {M r : Nat} (hr : r < 1000) (K : P (n, sh, 0, 0) I R L (some (.int (nI r))))  :  X T zX10_seats 3 0 0 P 245 [(0, .ref M), (1, .int (-1)), (3, .int (nI r))] [] (n, sh, 0, 0) (I) R L := by
  refine x_iload_n (pc := 245) dX10_seats_245 rfl rfl ?_
  refine x_ifn_ge (pc := 246) (tgt := 254) (a := r) dX10_seats_246 (by decide) (by omega) ?_
  refine x_iload_n (pc := 254) dX10_seats_254 rfl rfl ?_
  refine x_if_ge_f (pc := 255) (tgt := 262) dX10_seats_255 (by decide) (by decide) ?_
  refine x_iload_n (pc := 258) dX10_seats_258 rfl rfl ?_
  refine x_goto (pc := 259) (tgt := 273) dX10_seats_259 (by decide) ?_
  refine x_ireturn (pc := 273) dX10_seats_273 ⟨_, rfl, rfl⟩ ⟨Nat.le_refl _, Nat.le_refl _⟩ ?_
  exact K

set_option maxHeartbeats 4000000 in
set_option maxRecDepth 100000 in
theorem lm_seE0 {T : xT} {n : Nat} {sh : Nat → Nat × Nat} {I : xI} {R : xR} {L : xL} {P : xPost} {M : Nat} (hM : xModel sh R M) {V : xV} {B : Nat} (h : MDV I M V) (hv : VOK V B) {r k : Nat} {r2 ci : Nat → Nat} (hk : k < V 8 0) (hr : r < 1000) (hc : ∀ j, j < V 8 0 → ci j < V 8 0 ∧ I (M + 25) j = nI (ci j) ∧ r2 j = V 3 (ci j)) (K : P (n, sh, 0, 0) I R L (some (.int (nI (r2 k)))))  :  X T zX10_seats 3 0 0 P 245 [(0, .ref M), (1, .int (nI k)), (3, .int (nI r))] [] (n, sh, 0, 0) (I) R L := by
  obtain ⟨v6, v12, v10, vb, vf, vw, vm, vta, vte, vod, vrg, vdi⟩ := id hv
  refine x_iload_n (pc := 245) dX10_seats_245 rfl rfl ?_
  refine x_ifn_ge (pc := 246) (tgt := 254) (a := r) dX10_seats_246 (by decide) (by omega) ?_
  refine x_iload_n (pc := 254) dX10_seats_254 rfl rfl ?_
  refine x_ifn_ge (pc := 255) (tgt := 262) (a := k) dX10_seats_255 (by decide) (by omega) ?_
  refine x_aload_n (pc := 262) dX10_seats_262 rfl rfl ?_
  refine x_getr (pc := 263) dX10_seats_263 kf_RX10_32 hM.s rfl hM.f3 ?_
  refine x_aload_n (pc := 266) dX10_seats_266 rfl rfl ?_
  refine x_getr (pc := 267) dX10_seats_267 kf_RX10_147 hM.s rfl hM.f24 ?_
  refine x_iload_n (pc := 270) dX10_seats_270 rfl rfl ?_
  refine x_ialdn (pc := 271) (a := k) dX10_seats_271 hM.s24 (by omega) (by omega) ?_
  rw [(hc k hk).2.1]
  have ck := (hc k hk).1
  refine x_ialdn (pc := 272) (a := (ci k)) dX10_seats_272 hM.s3 (by omega) (by omega) ?_
  refine x_ireturn (pc := 273) dX10_seats_273 ⟨_, rfl, rfl⟩ ⟨Nat.le_refl _, Nat.le_refl _⟩ ?_
  rw [show I (M + 4) (ci k) = nI (r2 k) from (h.2.2.2.2.2.2.2.1 3 (by decide) _ ck).trans (by rw [(hc k hk).2.2])]
  exact K

theorem SEM.ans {V : xV} {J : xI} {M : Nat} {acc : xB} {y : Int32} (h : SEM V J M acc y) : (acc = none ∧ y = -1) ∨ ∃ (r1 : Nat) (r2 ci : Nat → Nat), acc = some (r1, r2) ∧ y = nI r1 ∧ ∀ j, j < V 8 0 → ci j < V 8 0 ∧ J (M + 25) j = nI (ci j) ∧ r2 j = V 3 (ci j) := by
  cases acc with
  | none => exact Or.inl ⟨rfl, h⟩
  | some r =>
    obtain ⟨r1, r2⟩ := r
    obtain ⟨e, ci, hc⟩ := h
    exact Or.inr ⟨r1, r2, ci, rfl, e, hc⟩

set_option maxHeartbeats 4000000 in
set_option maxRecDepth 100000 in
theorem lm_se42 {T : xT} {n : Nat} {sh : Nat → Nat × Nat} {I : xI} {R : xR} {L : xL} {P : xPost} {M : Nat} (hM : xModel sh R M) {V : xV} {B : Nat} (h : MDV I M V) (hv : VOK V B) (hcs : V 8 0 ^ V 8 0 ≤ 46656) {x : Int32} (hy : VSY V) (K : ∀ (J : xI) (acc : xB) (y : Int32), BST V (Sc V (V 8 0 ^ V 8 0)) acc → SEM V J M acc y → mdE M I J → X T zX10_seats 3 0 0 P 245 [(0, .ref M), (1, .int x), (3, .int y)] [] (n, sh, 0, 0) J R L)  :  X T zX10_seats 3 0 0 P 42 [(0, .ref M), (1, .int x), (2, .int (nI (V 8 0 ^ V 8 0)))] [] (n, sh, 0, 0) (I) R L := by
  refine x_iconst (pc := 42) (v := -1) dX10_seats_42 (by decide) ?_
  refine x_istore_n (pc := 43) (lv' := [(0, .ref M), (1, .int x), (2, .int (nI (V 8 0 ^ V 8 0))), (3, .int (-1))]) dX10_seats_43 rfl (by decide) rfl ?_
  refine x_iconst (pc := 44) (v := 0) dX10_seats_44 (by decide) ?_
  refine x_istore (pc := 45) (lv' := [(0, .ref M), (1, .int x), (2, .int (nI (V 8 0 ^ V 8 0))), (3, .int (-1)), (4, .int 0)]) dX10_seats_45 (by decide) rfl ?_
  refine lm_seB hM h hv hcs hy K (V 8 0 ^ V 8 0) 0 (by omega) I none (-1) (fun t _ q => ?_) rfl (fun _ _ _ => rfl)
  obtain ⟨c, hc, _⟩ := q
  omega

set_option maxHeartbeats 4000000 in
set_option maxRecDepth 100000 in
theorem m_seatsIt {T : xT} {n : Nat} {sh : Nat → Nat × Nat} {I : xI} {R : xR} {L : xL} {P : xPost} {M : Nat} (hM : xModel sh R M) {V : xV} {B : Nat} (h : MDV I M V) (hv : VOK V B) (hy : VSY V) {x : Int32} (K : ∀ I2 : xI, MDV I2 M V → mdP M I I2 → P (n, sh, 0, 0) I2 R L (some (.int (spSeats V x))))  : XM T zX10_seats 3 [.ref M, .int x] n sh I R L P := by
  obtain ⟨v6, v12, v10, vb, vf, vw, vm, vta, vte, vod, vrg, vdi⟩ := id hv
  refine x_iload_n (pc := 0) dX10_seats_0 rfl rfl ?_
  refine x_iconst (pc := 1) (v := -1) dX10_seats_1 (by decide) ?_
  refine x_icmp_eq (pc := 2) (tgt := 17) dX10_seats_2 (by decide) (fun c2 => ?_) (fun c2 => ?_)
  · skip
    refine x_iconst (pc := 17) (v := 1) dX10_seats_17 (by decide) ?_
    refine x_istore_n (pc := 18) (lv' := [(0, .ref M), (1, .int x), (2, .int 1)]) dX10_seats_18 rfl (by decide) rfl ?_
    refine x_iconst (pc := 19) (v := 0) dX10_seats_19 (by decide) ?_
    refine x_istore_n (pc := 20) (lv' := [(0, .ref M), (1, .int x), (2, .int 1), (3, .int 0)]) dX10_seats_20 rfl (by decide) rfl ?_
    refine X.keep [0, 1, 2, 3] rfl (lm_seA hM h hv (x := x) ?_ (V 8 0) 0 (by omega))
    have hcs := pw_nb (V 8 0) (by omega) (V 8 0) (by omega)
    refine lm_se42 hM h hv hcs hy (fun J acc y hb hs fj => ?_)
    have ba : BST V allS acc := hb.congr (fun t ht => ⟨fun _ => trivial, fun _ => Sc_all6 hv ht⟩)
    have h9 := K J (h.keepE fj) fj.mdP
    rw [spSe_s hv ba (Or.inl c2)] at h9
    subst c2
    rcases hs.ans with ⟨ea, ey⟩ | ⟨r1, r2, ci, ea, ey, hc⟩
    · subst ea ey
      exact lm_seEn h9
    · subst ea ey
      have hr : r1 < 1000 := by
        have q := csm_72 hv hb.1
        rw [hb.2.2.1] at q
        exact q
      exact lm_seE1 hr (xvi h9 (show (if (-1 : Int32) = -1 then nI r1 else nI (r2 (-1 : Int32).toNatClampNeg)) = nI r1 from if_pos rfl))
  · skip
    refine x_aload_n (pc := 5) dX10_seats_5 rfl rfl ?_
    refine x_iload_n (pc := 6) dX10_seats_6 rfl rfl ?_
    refine x_callV (pc := 7) (As := [.int _]) dX10_seats_7 km_X10_isBeast kv_X10_isBeast kl_RX10_246 hM.s rfl rfl (by decide) ⟨Nat.le_refl _, Nat.le_refl _⟩ rfl (Nat.le_of_ble_eq_true rfl) (Nat.le_of_ble_eq_true rfl) (m_isBeast hM h.1 v6 (fun k hk ek => ⟨rfl, rfl, ?_⟩) (fun h1 => ⟨rfl, rfl, ?_⟩))
    · skip
      subst ek
      refine x_if_ne_t (pc := 10) (tgt := 17) dX10_seats_10 (by decide) (by decide) ?_
      refine x_iconst (pc := 17) (v := 1) dX10_seats_17 (by decide) ?_
      refine x_istore_n (pc := 18) (lv' := [(0, .ref M), (1, .int (nI k)), (2, .int 1)]) dX10_seats_18 rfl (by decide) rfl ?_
      refine x_iconst (pc := 19) (v := 0) dX10_seats_19 (by decide) ?_
      refine x_istore_n (pc := 20) (lv' := [(0, .ref M), (1, .int (nI k)), (2, .int 1), (3, .int 0)]) dX10_seats_20 rfl (by decide) rfl ?_
      refine X.keep [0, 1, 2, 3] rfl (lm_seA hM h hv (x := (nI k)) ?_ (V 8 0) 0 (by omega))
      have hcs := pw_nb (V 8 0) (by omega) (V 8 0) (by omega)
      refine lm_se42 hM h hv hcs hy (fun J acc y hb hs fj => ?_)
      have ba : BST V allS acc := hb.congr (fun t ht => ⟨fun _ => trivial, fun _ => Sc_all6 hv ht⟩)
      have h9 := K J (h.keepE fj) fj.mdP
      rw [spSe_s hv ba (Or.inr ⟨k, hk, rfl⟩)] at h9
      rcases hs.ans with ⟨ea, ey⟩ | ⟨r1, r2, ci, ea, ey, hc⟩
      · subst ea ey
        exact lm_seEn h9
      · subst ea ey
        have hr : r1 < 1000 := by
          have q := csm_72 hv hb.1
          rw [hb.2.2.1] at q
          exact q
        exact lm_seE0 hM (h.keepE fj) hv hk hr hc (xvi h9 ((if_neg (nI_nem (by omega))).trans (by rw [nI_clamp (by omega)])))
    · skip
      refine x_if_ne_f (pc := 10) (tgt := 17) dX10_seats_10 (by decide) (by decide) ?_
      refine x_sipush (pc := 13) (v := -1001) dX10_seats_13 (by decide) ?_
      refine x_ireturn (pc := 16) dX10_seats_16 ⟨_, rfl, rfl⟩ ⟨Nat.le_refl _, Nat.le_refl _⟩ ?_
      have h9 := K I h mdP.rf
      rw [spSe_n c2 h1] at h9
      exact h9

