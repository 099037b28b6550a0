/-! ===== constructors: the whole class ===== -/
set_option maxHeartbeats 4000000 in
set_option maxRecDepth 100000 in
theorem l_i9a {T : xT} {sh0 : Nat → Nat × Nat} {I0 : xI} {R0 : xR} {L : xL} {P : xPost} (ha : sh0 65 = (4, 6)) (h0 : sh0 0 = (0, 9)) (h5 : R0 0 5 = some 65) (K : ∀ (sh : Nat → Nat × Nat) (J : xI) (S : xR), (∀ a, a < 83 → a ≠ 65 → S a = R0 a) → (∀ a, a < 83 → sh a = sh0 a ∧ J a = I0 a) → (∀ j, j < 6 → RNG (83 + 7 * j) (83 + 7 * j + 7) (QRG (83 + 7 * j)) sh J S ∧ S 65 j = some (83 + 7 * j)) → FRS 125 J S L → X T zX9_init 8 136 5360 P 145 [(0, .ref 0), (1, .int (nI 6))] [] (125, sh, 124, 4982) J S L) : ∀ (w i : Nat), i + w = 6 → ∀ (n ca sa : Nat) (sh : Nat → Nat × Nat) (J : xI) (S : xR), n = 83 + 7 * i → ca = 82 + 7 * i → sa = 3122 + 310 * i → FRS n J S L → (∀ a, a < 83 → a ≠ 65 → S a = R0 a) → (∀ a, a < 83 → sh a = sh0 a ∧ J a = I0 a) → (∀ j, j < i → RNG (83 + 7 * j) (83 + 7 * j + 7) (QRG (83 + 7 * j)) sh J S ∧ S 65 j = some (83 + 7 * j)) → X T zX9_init 8 136 5360 P 111 [(0, .ref 0), (1, .int (nI i))] [] (n, sh, ca, sa) J S L := by
  intro w
  induction w with
  | zero =>
    intro i hw n ca sa sh J S en ec es F kR kI kA
    have e6 : i = 6 := by omega
    subst e6
    have en : n = 125 := by omega
    have ec : ca = 124 := by omega
    have es : sa = 4982 := by omega
    subst en
    subst ec
    subst es
    refine x_iload_n (pc := 111) dX9_init_111 rfl rfl ?_
    refine x_bipush (pc := 112) (v := 6) dX9_init_112 (by decide) ?_
    refine x_icmpn_ge_t (pc := 114) (tgt := 145) (a := 6) (b := 6) dX9_init_114 (by decide) (by omega) (by decide) (by omega) ?_
    exact K sh J S kR kI kA F
  | succ w ih =>
    intro i hw n ca sa sh J S en ec es F kR kI kA
    have hi : i < 6 := by omega
    refine x_iload_n (pc := 111) dX9_init_111 rfl rfl ?_
    refine x_bipush (pc := 112) (v := 6) dX9_init_112 (by decide) ?_
    refine x_icmpn_ge_f (pc := 114) (tgt := 145) (a := i) (b := 6) dX9_init_114 (by decide) (by omega) (by decide) (by omega) ?_
    refine x_iload_n (pc := 117) dX9_init_117 rfl rfl ?_
    refine x_aload_n (pc := 118) dX9_init_118 rfl rfl ?_
    refine x_getr (pc := 119) dX9_init_119 kf_RX9_37 ((kI 0 (by omega)).1.trans h0) rfl (kR 0 (by omega) (by omega) ▸ h5) ?_
    refine x_alen (pc := 122) (v := 6) dX9_init_122 ((kI 65 (by omega)).1.trans ha) ⟨by decide, by decide⟩ (by decide) ?_
    refine x_icmpn_ge_f (pc := 123) (tgt := 145) (a := i) (b := 6) dX9_init_123 (by decide) (by omega) (by decide) (by omega) ?_
    refine x_aload_n (pc := 126) dX9_init_126 rfl rfl ?_
    refine x_getr (pc := 127) dX9_init_127 kf_RX9_37 ((kI 0 (by omega)).1.trans h0) rfl (kR 0 (by omega) (by omega) ▸ h5) ?_
    refine x_iload_n (pc := 130) dX9_init_130 rfl rfl ?_
    refine x_newK (pc := 131) (ca1 := ca + 1) (sa1 := sa + 4) (n1 := n + 1) dX9_init_131 kc_RX9_35 F (List.forall_mem_cons.mpr ⟨trivial, List.forall_mem_cons.mpr ⟨xvr_ok (by omega), fun _ h => absurd h List.not_mem_nil⟩⟩) (List.forall_mem_cons.mpr ⟨xvr_ok (by omega), List.forall_mem_cons.mpr ⟨trivial, fun _ h => absurd h List.not_mem_nil⟩⟩) rfl rfl rfl (by omega) (by omega) (fun sh1 a1 b1 => ?_)
    have F1 : FRS (n + 1) J S L := F.next (by omega)
    refine x_dup (pc := 134) dX9_init_134 rfl ?_
    refine x_callIN (pc := 135) (ci := 0) (As := []) (mc := 6) (ms := 306) (r := n) dX9_init_135 km_X4_init ki_X4_init rfl rfl kn_RX9_72 rfl (by decide) ⟨by omega, by omega⟩ rfl (Nat.le_of_ble_eq_true rfl) (Nat.le_of_ble_eq_true rfl) ⟨by omega, (List.forall_mem_cons.mpr ⟨xvr_ok (by omega), List.forall_mem_cons.mpr ⟨trivial, List.forall_mem_cons.mpr ⟨xvr_ok (by omega), fun _ h => absurd h List.not_mem_nil⟩⟩⟩), (List.forall_mem_cons.mpr ⟨xvr_ok (by omega), List.forall_mem_cons.mpr ⟨trivial, fun _ h => absurd h List.not_mem_nil⟩⟩)⟩ (i_ring (r := n) (n2 := n + 7) rfl F1 (by omega) rfl a1 (fun sh2 J2 S2 h o F2 => ⟨rfl, ?_⟩))
    show X T zX9_init 8 136 5360 P 138 [(0, .ref 0), (1, .int (nI i))] [.ref n, .int (nI i), .ref 65] (n + 7, sh2, ca + 1 + 6, sa + 4 + 306) J2 S2 L
    have kI2 : ∀ a, a < 83 → sh2 a = sh0 a ∧ J2 a = I0 a := fun a q => ⟨(o a (by omega)).1.trans ((b1 a (by omega)).trans (kI a q).1), (o a (by omega)).2.1.trans (kI a q).2⟩
    refine x_aast (pc := 138) dX9_init_138 ((kI2 65 (by omega)).1.trans ha) h.get.1 (Or.inl ⟨rfl, rfl⟩) (vp_in_nI (by omega) (by omega)) ?_
    rw [nI_clamp (by omega)]
    refine x_iinc (pc := 139) (v := nI (i + 1)) (lv' := [(0, .ref 0), (1, .int (nI (i + 1)))]) dX9_init_139 rfl (nI_1 _) (by decide) rfl ?_
    refine x_goto (pc := 142) (tgt := 111) dX9_init_142 (by decide) ?_
    refine ih (i + 1) (by omega) (n + 7) (ca + 1 + 6) (sa + 4 + 306) sh2 J2 _ (by omega) (by omega) (by omega) (F2.pS (by omega) (by omega)) (fun a q z => (up2_row z).trans ((o a (by omega)).2.2.trans (kR a q z))) kI2 (fun j hj => ?_)
    by_cases z : j = i
    · subst z
      refine ⟨?_, ?_⟩
      · rw [← en]
        exact h.pR (by omega)
      · rw [← en]
        exact up2_s
    · obtain ⟨k1, k2⟩ := kA j (by omega)
      exact ⟨((k1.nw b1 (by omega)).ch o (by omega)).pR (by omega), (up2_k z).trans ((congrFun (o 65 (by omega)).2.2 j).trans k2)⟩

set_option maxHeartbeats 4000000 in
set_option maxRecDepth 100000 in
theorem l_i9b {T : xT} {sh0 : Nat → Nat × Nat} {I0 : xI} {R0 : xR} {L : xL} {P : xPost} (ha : sh0 82 = (5, 6)) (h0 : sh0 0 = (0, 9)) (h5 : R0 0 10 = some 82) (K : ∀ (sh : Nat → Nat × Nat) (J : xI) (S : xR), (∀ a, a < 125 → a ≠ 82 → S a = R0 a) → (∀ a, a < 125 → sh a = sh0 a ∧ J a = I0 a) → (∀ j, j < 6 → RNG (125 + 2 * j) (125 + 2 * j + 2) (QTP (125 + 2 * j)) sh J S ∧ S 82 j = some (125 + 2 * j)) → FRS 137 J S L → X T zX9_init 8 136 5360 P 181 [(0, .ref 0), (1, .int (nI 6))] [] (137, sh, 136, 5360) J S L) : ∀ (w i : Nat), i + w = 6 → ∀ (n ca sa : Nat) (sh : Nat → Nat × Nat) (J : xI) (S : xR), n = 125 + 2 * i → ca = 124 + 2 * i → sa = 4982 + 63 * i → FRS n J S L → (∀ a, a < 125 → a ≠ 82 → S a = R0 a) → (∀ a, a < 125 → sh a = sh0 a ∧ J a = I0 a) → (∀ j, j < i → RNG (125 + 2 * j) (125 + 2 * j + 2) (QTP (125 + 2 * j)) sh J S ∧ S 82 j = some (125 + 2 * j)) → X T zX9_init 8 136 5360 P 147 [(0, .ref 0), (1, .int (nI i))] [] (n, sh, ca, sa) J S L := by
  intro w
  induction w with
  | zero =>
    intro i hw n ca sa sh J S en ec es F kR kI kA
    have e6 : i = 6 := by omega
    subst e6
    have en : n = 137 := by omega
    have ec : ca = 136 := by omega
    have es : sa = 5360 := by omega
    subst en
    subst ec
    subst es
    refine x_iload_n (pc := 147) dX9_init_147 rfl rfl ?_
    refine x_bipush (pc := 148) (v := 6) dX9_init_148 (by decide) ?_
    refine x_icmpn_ge_t (pc := 150) (tgt := 181) (a := 6) (b := 6) dX9_init_150 (by decide) (by omega) (by decide) (by omega) ?_
    exact K sh J S kR kI kA F
  | succ w ih =>
    intro i hw n ca sa sh J S en ec es F kR kI kA
    have hi : i < 6 := by omega
    refine x_iload_n (pc := 147) dX9_init_147 rfl rfl ?_
    refine x_bipush (pc := 148) (v := 6) dX9_init_148 (by decide) ?_
    refine x_icmpn_ge_f (pc := 150) (tgt := 181) (a := i) (b := 6) dX9_init_150 (by decide) (by omega) (by decide) (by omega) ?_
    refine x_iload_n (pc := 153) dX9_init_153 rfl rfl ?_
    refine x_aload_n (pc := 154) dX9_init_154 rfl rfl ?_
    refine x_getr (pc := 155) dX9_init_155 kf_RX9_68 ((kI 0 (by omega)).1.trans h0) rfl (kR 0 (by omega) (by omega) ▸ h5) ?_
    refine x_alen (pc := 158) (v := 6) dX9_init_158 ((kI 82 (by omega)).1.trans ha) ⟨by decide, by decide⟩ (by decide) ?_
    refine x_icmpn_ge_f (pc := 159) (tgt := 181) (a := i) (b := 6) dX9_init_159 (by decide) (by omega) (by decide) (by omega) ?_
    refine x_aload_n (pc := 162) dX9_init_162 rfl rfl ?_
    refine x_getr (pc := 163) dX9_init_163 kf_RX9_68 ((kI 0 (by omega)).1.trans h0) rfl (kR 0 (by omega) (by omega) ▸ h5) ?_
    refine x_iload_n (pc := 166) dX9_init_166 rfl rfl ?_
    refine x_newK (pc := 167) (ca1 := ca + 1) (sa1 := sa + 3) (n1 := n + 1) dX9_init_167 kc_RX9_66 F (List.forall_mem_cons.mpr ⟨trivial, List.forall_mem_cons.mpr ⟨xvr_ok (by omega), fun _ h => absurd h List.not_mem_nil⟩⟩) (List.forall_mem_cons.mpr ⟨xvr_ok (by omega), List.forall_mem_cons.mpr ⟨trivial, fun _ h => absurd h List.not_mem_nil⟩⟩) rfl rfl rfl (by omega) (by omega) (fun sh1 a1 b1 => ?_)
    have F1 : FRS (n + 1) J S L := F.next (by omega)
    refine x_dup (pc := 170) dX9_init_170 rfl ?_
    refine x_callIN (pc := 171) (ci := 0) (As := []) (mc := 1) (ms := 60) (r := n) dX9_init_171 km_X8_init ki_X8_init rfl rfl kn_RX9_73 rfl (by decide) ⟨by omega, by omega⟩ rfl (Nat.le_of_ble_eq_true rfl) (Nat.le_of_ble_eq_true rfl) ⟨by omega, (List.forall_mem_cons.mpr ⟨xvr_ok (by omega), List.forall_mem_cons.mpr ⟨trivial, List.forall_mem_cons.mpr ⟨xvr_ok (by omega), fun _ h => absurd h List.not_mem_nil⟩⟩⟩), (List.forall_mem_cons.mpr ⟨xvr_ok (by omega), List.forall_mem_cons.mpr ⟨trivial, fun _ h => absurd h List.not_mem_nil⟩⟩)⟩ (i_tape (r := n) (n2 := n + 2) rfl F1 (by omega) rfl a1 (fun sh2 J2 S2 h o F2 => ⟨rfl, ?_⟩))
    show X T zX9_init 8 136 5360 P 174 [(0, .ref 0), (1, .int (nI i))] [.ref n, .int (nI i), .ref 82] (n + 2, sh2, ca + 1 + 1, sa + 3 + 60) J2 S2 L
    have kI2 : ∀ a, a < 125 → sh2 a = sh0 a ∧ J2 a = I0 a := fun a q => ⟨(o a (by omega)).1.trans ((b1 a (by omega)).trans (kI a q).1), (o a (by omega)).2.1.trans (kI a q).2⟩
    refine x_aast (pc := 174) dX9_init_174 ((kI2 82 (by omega)).1.trans ha) h.get.1 (Or.inr ⟨rfl, rfl⟩) (vp_in_nI (by omega) (by omega)) ?_
    rw [nI_clamp (by omega)]
    refine x_iinc (pc := 175) (v := nI (i + 1)) (lv' := [(0, .ref 0), (1, .int (nI (i + 1)))]) dX9_init_175 rfl (nI_1 _) (by decide) rfl ?_
    refine x_goto (pc := 178) (tgt := 147) dX9_init_178 (by decide) ?_
    refine ih (i + 1) (by omega) (n + 2) (ca + 1 + 1) (sa + 3 + 60) sh2 J2 _ (by omega) (by omega) (by omega) (F2.pS (by omega) (by omega)) (fun a q z => (up2_row z).trans ((o a (by omega)).2.2.trans (kR a q z))) kI2 (fun j hj => ?_)
    by_cases z : j = i
    · subst z
      refine ⟨?_, ?_⟩
      · rw [← en]
        exact h.pR (by omega)
      · rw [← en]
        exact up2_s
    · obtain ⟨k1, k2⟩ := kA j (by omega)
      exact ⟨((k1.nw b1 (by omega)).ch o (by omega)).pR (by omega), (up2_k z).trans ((congrFun (o 82 (by omega)).2.2 j).trans k2)⟩

/-- the class, new -/
def QLR : (Nat → Nat × Nat) → xI → xR → Prop := fun sh I R => sh 0 = (0, 9) ∧ R 0 0 = some 1 ∧ R 0 1 = some 19 ∧ R 0 2 = some 37 ∧ R 0 4 = some 55 ∧ R 0 5 = some 65 ∧ R 0 7 = some 66 ∧ R 0 8 = some 72 ∧ R 0 9 = some 79 ∧ R 0 10 = some 82 ∧ I 0 3 = 0 ∧ I 0 6 = 0 ∧ QSC 1 sh I R ∧ QSC 19 sh I R ∧ QSC 37 sh I R ∧ QRD 55 sh I R ∧ QHU 66 sh I R ∧ QSE 72 sh I R ∧ QAC 79 sh I R ∧ sh 65 = (4, 6) ∧ (∀ j, j < 6 → QRG (83 + 7 * j) sh I R ∧ R 65 j = some (83 + 7 * j)) ∧ sh 82 = (5, 6) ∧ ∀ j, j < 6 → QTP (125 + 2 * j) sh I R ∧ R 82 j = some (125 + 2 * j)

set_option maxHeartbeats 4000000 in
set_option maxRecDepth 100000 in
theorem i_lion {T : xT} {sh : Nat → Nat × Nat} {I : xI} {R : xR} {L : xL} {P : xPost} (F : FRS 1 I R L) (hs : sh 0 = (0, 9)) (K : ∀ (sh2 : Nat → Nat × Nat) (J : xI) (S : xR), RNG 0 137 QLR sh2 J S → FRS 137 J S L → P (137, sh2, 136, 5360) J S L none) : X T zX9_init 8 136 5360 P 0 [(0, .ref 0)] [] (1, sh, 0, 0) I R L := by
  have Q0 : OLD 0 sh sh I I R R := OLD.rf
  refine x_aload_n (pc := 0) dX9_init_0 rfl rfl ?_
  refine x_objInit (pc := 1) (by decide) kl_RX9_3 kw_obj.1 kw_obj.2 dX9_init_1 (Nat.le_of_ble_eq_true rfl) ?_
  refine x_aload_n (pc := 4) dX9_init_4 rfl rfl ?_
  refine x_newK (pc := 5) (ca1 := 1) (sa1 := 15) (n1 := 2) dX9_init_5 kc_RX9_9 F (List.forall_mem_cons.mpr ⟨xvr_ok (by omega), fun _ h => absurd h List.not_mem_nil⟩) (List.forall_mem_cons.mpr ⟨xvr_ok (by omega), fun _ h => absurd h List.not_mem_nil⟩) rfl rfl rfl (by decide) (by decide) (fun sh1 a1 b1 => ?_)
  have u1_0 := (b1 _ (by omega)).trans hs
  have F1 := F.next (by omega)
  have Q2 := Q0.nw b1 (by omega)
  refine x_dup (pc := 8) dX9_init_8 rfl ?_
  refine x_callIN (pc := 9) (ci := 0) (As := []) (mc := 17) (ms := 81) (r := 1) dX9_init_9 km_X6_init ki_X6_init rfl rfl kn_RX9_11 rfl (by decide) ⟨Nat.le_of_ble_eq_true rfl, Nat.le_of_ble_eq_true rfl⟩ rfl (Nat.le_of_ble_eq_true rfl) (Nat.le_of_ble_eq_true rfl) ⟨by omega, (List.forall_mem_cons.mpr ⟨xvr_ok (by omega), List.forall_mem_cons.mpr ⟨xvr_ok (by omega), fun _ h => absurd h List.not_mem_nil⟩⟩), (List.forall_mem_cons.mpr ⟨xvr_ok (by omega), fun _ h => absurd h List.not_mem_nil⟩)⟩ (i_scene (r := 1) (n2 := 19) rfl F1 (by omega) rfl a1 (fun sh3 J3 S3 h3 o3 F3 => ⟨rfl, ?_⟩))
  show X T zX9_init 8 136 5360 P 12 [(0, .ref 0)] [.ref 1, .ref 0] (19, sh3, 18, 96) J3 S3 L
  have Q4 := Q2.ch o3 (by omega)
  have u5 := (o3 0 (by omega)).1.trans u1_0
  refine x_putrF (pc := 12) dX9_init_12 kf_RX9_12 rfl rfl u5 rfl ?_
  have F6 : FRS 19 J3 (up2 S3 0 0 (some 1)) L := F3.pS (by omega) (by omega)
  have Q7 : OLD 0 sh sh3 I J3 R (up2 S3 0 0 (some 1)) := Q4.pR (Nat.le_refl _)
  have h8 := h3.pR (c := 0) (k := 0) (o := (some 1)) (by omega)
  have g9 : (up2 S3 0 0 (some 1)) 0 0 = (some 1) := up2_s
  refine x_aload_n (pc := 15) dX9_init_15 rfl rfl ?_
  refine x_newK (pc := 16) (ca1 := 19) (sa1 := 111) (n1 := 20) dX9_init_16 kc_RX9_9 F6 (List.forall_mem_cons.mpr ⟨xvr_ok (by omega), fun _ h => absurd h List.not_mem_nil⟩) (List.forall_mem_cons.mpr ⟨xvr_ok (by omega), fun _ h => absurd h List.not_mem_nil⟩) rfl rfl rfl (by decide) (by decide) (fun sh10 a10 b10 => ?_)
  have u10_0 := (b10 _ (by omega)).trans u5
  have F10 := F6.next (by omega)
  have Q11 := Q7.nw b10 (by omega)
  have h12 := h8.nw b10 (by omega)
  refine x_dup (pc := 19) dX9_init_19 rfl ?_
  refine x_callIN (pc := 20) (ci := 0) (As := []) (mc := 17) (ms := 81) (r := 19) dX9_init_20 km_X6_init ki_X6_init rfl rfl kn_RX9_11 rfl (by decide) ⟨Nat.le_of_ble_eq_true rfl, Nat.le_of_ble_eq_true rfl⟩ rfl (Nat.le_of_ble_eq_true rfl) (Nat.le_of_ble_eq_true rfl) ⟨by omega, (List.forall_mem_cons.mpr ⟨xvr_ok (by omega), List.forall_mem_cons.mpr ⟨xvr_ok (by omega), fun _ h => absurd h List.not_mem_nil⟩⟩), (List.forall_mem_cons.mpr ⟨xvr_ok (by omega), fun _ h => absurd h List.not_mem_nil⟩)⟩ (i_scene (r := 19) (n2 := 37) rfl F10 (by omega) rfl a10 (fun sh13 J13 S13 h13 o13 F13 => ⟨rfl, ?_⟩))
  show X T zX9_init 8 136 5360 P 23 [(0, .ref 0)] [.ref 19, .ref 0] (37, sh13, 36, 192) J13 S13 L
  have Q14 := Q11.ch o13 (by omega)
  have h15 := h12.ch o13 (by omega)
  have u16 := (o13 0 (by omega)).1.trans u10_0
  have g17 := (congrFun (o13 0 (by omega)).2.2 0).trans g9
  refine x_putrF (pc := 23) dX9_init_23 kf_RX9_18 rfl rfl u16 rfl ?_
  have F18 : FRS 37 J13 (up2 S13 0 1 (some 19)) L := F13.pS (by omega) (by omega)
  have Q19 : OLD 0 sh sh13 I J13 R (up2 S13 0 1 (some 19)) := Q14.pR (Nat.le_refl _)
  have h20 := h15.pR (c := 0) (k := 1) (o := (some 19)) (by omega)
  have h21 := h13.pR (c := 0) (k := 1) (o := (some 19)) (by omega)
  have g22 : (up2 S13 0 1 (some 19)) 0 0 = (some 1) := (up2_k (by decide)).trans g17
  have g23 : (up2 S13 0 1 (some 19)) 0 1 = (some 19) := up2_s
  refine x_aload_n (pc := 26) dX9_init_26 rfl rfl ?_
  refine x_newK (pc := 27) (ca1 := 37) (sa1 := 207) (n1 := 38) dX9_init_27 kc_RX9_9 F18 (List.forall_mem_cons.mpr ⟨xvr_ok (by omega), fun _ h => absurd h List.not_mem_nil⟩) (List.forall_mem_cons.mpr ⟨xvr_ok (by omega), fun _ h => absurd h List.not_mem_nil⟩) rfl rfl rfl (by decide) (by decide) (fun sh24 a24 b24 => ?_)
  have u24_0 := (b24 _ (by omega)).trans u16
  have F24 := F18.next (by omega)
  have Q25 := Q19.nw b24 (by omega)
  have h26 := h20.nw b24 (by omega)
  have h27 := h21.nw b24 (by omega)
  refine x_dup (pc := 30) dX9_init_30 rfl ?_
  refine x_callIN (pc := 31) (ci := 0) (As := []) (mc := 17) (ms := 81) (r := 37) dX9_init_31 km_X6_init ki_X6_init rfl rfl kn_RX9_11 rfl (by decide) ⟨Nat.le_of_ble_eq_true rfl, Nat.le_of_ble_eq_true rfl⟩ rfl (Nat.le_of_ble_eq_true rfl) (Nat.le_of_ble_eq_true rfl) ⟨by omega, (List.forall_mem_cons.mpr ⟨xvr_ok (by omega), List.forall_mem_cons.mpr ⟨xvr_ok (by omega), fun _ h => absurd h List.not_mem_nil⟩⟩), (List.forall_mem_cons.mpr ⟨xvr_ok (by omega), fun _ h => absurd h List.not_mem_nil⟩)⟩ (i_scene (r := 37) (n2 := 55) rfl F24 (by omega) rfl a24 (fun sh28 J28 S28 h28 o28 F28 => ⟨rfl, ?_⟩))
  show X T zX9_init 8 136 5360 P 34 [(0, .ref 0)] [.ref 37, .ref 0] (55, sh28, 54, 288) J28 S28 L
  have Q29 := Q25.ch o28 (by omega)
  have h30 := h26.ch o28 (by omega)
  have h31 := h27.ch o28 (by omega)
  have u32 := (o28 0 (by omega)).1.trans u24_0
  have g33 := (congrFun (o28 0 (by omega)).2.2 0).trans g22
  have g34 := (congrFun (o28 0 (by omega)).2.2 1).trans g23
  refine x_putrF (pc := 34) dX9_init_34 kf_RX9_21 rfl rfl u32 rfl ?_
  have F35 : FRS 55 J28 (up2 S28 0 2 (some 37)) L := F28.pS (by omega) (by omega)
  have Q36 : OLD 0 sh sh28 I J28 R (up2 S28 0 2 (some 37)) := Q29.pR (Nat.le_refl _)
  have h37 := h30.pR (c := 0) (k := 2) (o := (some 37)) (by omega)
  have h38 := h31.pR (c := 0) (k := 2) (o := (some 37)) (by omega)
  have h39 := h28.pR (c := 0) (k := 2) (o := (some 37)) (by omega)
  have g40 : (up2 S28 0 2 (some 37)) 0 0 = (some 1) := (up2_k (by decide)).trans g33
  have g41 : (up2 S28 0 2 (some 37)) 0 1 = (some 19) := (up2_k (by decide)).trans g34
  have g42 : (up2 S28 0 2 (some 37)) 0 2 = (some 37) := up2_s
  refine x_aload_n (pc := 37) dX9_init_37 rfl rfl ?_
  refine x_iconst (pc := 38) (v := 0) dX9_init_38 (by decide) ?_
  refine x_put (pc := 39) dX9_init_39 kf_RX9_24 u32 rfl (Or.inr (Or.inl rfl)) ?_
  have F43 : FRS 55 (up2 J28 0 3 0) (up2 S28 0 2 (some 37)) L := F35.pI (by omega)
  have Q44 : OLD 0 sh sh28 I (up2 J28 0 3 0) R (up2 S28 0 2 (some 37)) := Q36.pI (Nat.le_refl _)
  have h45 := h37.pI (c := 0) (k := 3) (x := 0) (by omega)
  have h46 := h38.pI (c := 0) (k := 3) (x := 0) (by omega)
  have h47 := h39.pI (c := 0) (k := 3) (x := 0) (by omega)
  have g48 : (up2 J28 0 3 0) 0 3 = 0 := up2_s
  refine x_aload_n (pc := 42) dX9_init_42 rfl rfl ?_
  refine x_newK (pc := 43) (ca1 := 55) (sa1 := 291) (n1 := 56) dX9_init_43 kc_RX9_28 F43 (List.forall_mem_cons.mpr ⟨xvr_ok (by omega), fun _ h => absurd h List.not_mem_nil⟩) (List.forall_mem_cons.mpr ⟨xvr_ok (by omega), fun _ h => absurd h List.not_mem_nil⟩) rfl rfl rfl (by decide) (by decide) (fun sh49 a49 b49 => ?_)
  have u49_0 := (b49 _ (by omega)).trans u32
  have F49 := F43.next (by omega)
  have Q50 := Q44.nw b49 (by omega)
  have h51 := h45.nw b49 (by omega)
  have h52 := h46.nw b49 (by omega)
  have h53 := h47.nw b49 (by omega)
  refine x_dup (pc := 46) dX9_init_46 rfl ?_
  refine x_callIN (pc := 47) (ci := 0) (As := []) (mc := 9) (ms := 412) (r := 55) dX9_init_47 km_X3_init ki_X3_init rfl rfl kn_RX9_30 rfl (by decide) ⟨Nat.le_of_ble_eq_true rfl, Nat.le_of_ble_eq_true rfl⟩ rfl (Nat.le_of_ble_eq_true rfl) (Nat.le_of_ble_eq_true rfl) ⟨by omega, (List.forall_mem_cons.mpr ⟨xvr_ok (by omega), List.forall_mem_cons.mpr ⟨xvr_ok (by omega), fun _ h => absurd h List.not_mem_nil⟩⟩), (List.forall_mem_cons.mpr ⟨xvr_ok (by omega), fun _ h => absurd h List.not_mem_nil⟩)⟩ (i_reader (r := 55) (n2 := 65) rfl F49 (by omega) rfl a49 (fun sh54 J54 S54 h54 o54 F54 => ⟨rfl, ?_⟩))
  show X T zX9_init 8 136 5360 P 50 [(0, .ref 0)] [.ref 55, .ref 0] (65, sh54, 64, 703) J54 S54 L
  have Q55 := Q50.ch o54 (by omega)
  have h56 := h51.ch o54 (by omega)
  have h57 := h52.ch o54 (by omega)
  have h58 := h53.ch o54 (by omega)
  have u59 := (o54 0 (by omega)).1.trans u49_0
  have g60 := (congrFun (o54 0 (by omega)).2.2 0).trans g40
  have g61 := (congrFun (o54 0 (by omega)).2.2 1).trans g41
  have g62 := (congrFun (o54 0 (by omega)).2.2 2).trans g42
  have g63 := (congrFun (o54 0 (by omega)).2.1 3).trans g48
  refine x_putrF (pc := 50) dX9_init_50 kf_RX9_31 rfl rfl u59 rfl ?_
  have F64 : FRS 65 J54 (up2 S54 0 4 (some 55)) L := F54.pS (by omega) (by omega)
  have Q65 : OLD 0 sh sh54 I J54 R (up2 S54 0 4 (some 55)) := Q55.pR (Nat.le_refl _)
  have h66 := h56.pR (c := 0) (k := 4) (o := (some 55)) (by omega)
  have h67 := h57.pR (c := 0) (k := 4) (o := (some 55)) (by omega)
  have h68 := h58.pR (c := 0) (k := 4) (o := (some 55)) (by omega)
  have h69 := h54.pR (c := 0) (k := 4) (o := (some 55)) (by omega)
  have g70 : (up2 S54 0 4 (some 55)) 0 0 = (some 1) := (up2_k (by decide)).trans g60
  have g71 : (up2 S54 0 4 (some 55)) 0 1 = (some 19) := (up2_k (by decide)).trans g61
  have g72 : (up2 S54 0 4 (some 55)) 0 2 = (some 37) := (up2_k (by decide)).trans g62
  have g73 : (up2 S54 0 4 (some 55)) 0 4 = (some 55) := up2_s
  refine x_aload_n (pc := 53) dX9_init_53 rfl rfl ?_
  refine x_bipush (pc := 54) (v := 6) dX9_init_54 (by decide) ?_
  refine x_anewK (pc := 56) (t := 4) (len := 6) (ca1 := 65) (sa1 := 709) (n1 := 66) dX9_init_56 (Or.inl ⟨rfl, rfl⟩) ka_RX9_35 rfl (by decide) F64 (List.forall_mem_cons.mpr ⟨xvr_ok (by omega), fun _ h => absurd h List.not_mem_nil⟩) (List.forall_mem_cons.mpr ⟨xvr_ok (by omega), fun _ h => absurd h List.not_mem_nil⟩) rfl rfl rfl (by decide) (by decide) (fun sh74 a74 b74 => ?_)
  have u74_0 := (b74 _ (by omega)).trans u59
  have F74 := F64.next (by omega)
  have Q75 := Q65.nw b74 (by omega)
  have h76 := h66.nw b74 (by omega)
  have h77 := h67.nw b74 (by omega)
  have h78 := h68.nw b74 (by omega)
  have h79 := h69.nw b74 (by omega)
  refine x_putrF (pc := 59) dX9_init_59 kf_RX9_37 rfl rfl u74_0 rfl ?_
  have F80 : FRS 66 J54 (up2 (up2 S54 0 4 (some 55)) 0 5 (some 65)) L := F74.pS (by omega) (by omega)
  have Q81 : OLD 0 sh sh74 I J54 R (up2 (up2 S54 0 4 (some 55)) 0 5 (some 65)) := Q75.pR (Nat.le_refl _)
  have h82 := h76.pR (c := 0) (k := 5) (o := (some 65)) (by omega)
  have h83 := h77.pR (c := 0) (k := 5) (o := (some 65)) (by omega)
  have h84 := h78.pR (c := 0) (k := 5) (o := (some 65)) (by omega)
  have h85 := h79.pR (c := 0) (k := 5) (o := (some 65)) (by omega)
  have g86 : (up2 (up2 S54 0 4 (some 55)) 0 5 (some 65)) 0 0 = (some 1) := (up2_k (by decide)).trans g70
  have g87 : (up2 (up2 S54 0 4 (some 55)) 0 5 (some 65)) 0 1 = (some 19) := (up2_k (by decide)).trans g71
  have g88 : (up2 (up2 S54 0 4 (some 55)) 0 5 (some 65)) 0 2 = (some 37) := (up2_k (by decide)).trans g72
  have g89 : (up2 (up2 S54 0 4 (some 55)) 0 5 (some 65)) 0 4 = (some 55) := (up2_k (by decide)).trans g73
  have g90 : (up2 (up2 S54 0 4 (some 55)) 0 5 (some 65)) 0 5 = (some 65) := up2_s
  refine x_aload_n (pc := 62) dX9_init_62 rfl rfl ?_
  refine x_iconst (pc := 63) (v := 0) dX9_init_63 (by decide) ?_
  refine x_put (pc := 64) dX9_init_64 kf_RX9_41 u74_0 rfl (Or.inl kb_9_6) ?_
  have F91 : FRS 66 (up2 J54 0 6 0) (up2 (up2 S54 0 4 (some 55)) 0 5 (some 65)) L := F80.pI (by omega)
  have Q92 : OLD 0 sh sh74 I (up2 J54 0 6 0) R (up2 (up2 S54 0 4 (some 55)) 0 5 (some 65)) := Q81.pI (Nat.le_refl _)
  have h93 := h82.pI (c := 0) (k := 6) (x := 0) (by omega)
  have h94 := h83.pI (c := 0) (k := 6) (x := 0) (by omega)
  have h95 := h84.pI (c := 0) (k := 6) (x := 0) (by omega)
  have h96 := h85.pI (c := 0) (k := 6) (x := 0) (by omega)
  have g97 : (up2 J54 0 6 0) 0 3 = 0 := (up2_k (by decide)).trans g63
  have g98 : (up2 J54 0 6 0) 0 6 = 0 := up2_s
  refine x_aload_n (pc := 67) dX9_init_67 rfl rfl ?_
  refine x_newK (pc := 68) (ca1 := 66) (sa1 := 714) (n1 := 67) dX9_init_68 kc_RX9_45 F91 (List.forall_mem_cons.mpr ⟨xvr_ok (by omega), fun _ h => absurd h List.not_mem_nil⟩) (List.forall_mem_cons.mpr ⟨xvr_ok (by omega), fun _ h => absurd h List.not_mem_nil⟩) rfl rfl rfl (by decide) (by decide) (fun sh99 a99 b99 => ?_)
  have u99_0 := (b99 _ (by omega)).trans u74_0
  have u99_1 := (b99 _ (by omega)).trans a74
  have F99 := F91.next (by omega)
  have Q100 := Q92.nw b99 (by omega)
  have h101 := h93.nw b99 (by omega)
  have h102 := h94.nw b99 (by omega)
  have h103 := h95.nw b99 (by omega)
  have h104 := h96.nw b99 (by omega)
  refine x_dup (pc := 71) dX9_init_71 rfl ?_
  refine x_callIN (pc := 72) (ci := 0) (As := []) (mc := 5) (ms := 2347) (r := 66) dX9_init_72 km_X1_init ki_X1_init rfl rfl kn_RX9_47 rfl (by decide) ⟨Nat.le_of_ble_eq_true rfl, Nat.le_of_ble_eq_true rfl⟩ rfl (Nat.le_of_ble_eq_true rfl) (Nat.le_of_ble_eq_true rfl) ⟨by omega, (List.forall_mem_cons.mpr ⟨xvr_ok (by omega), List.forall_mem_cons.mpr ⟨xvr_ok (by omega), fun _ h => absurd h List.not_mem_nil⟩⟩), (List.forall_mem_cons.mpr ⟨xvr_ok (by omega), fun _ h => absurd h List.not_mem_nil⟩)⟩ (i_hunt (r := 66) (n2 := 72) rfl F99 (by omega) rfl a99 (fun sh105 J105 S105 h105 o105 F105 => ⟨rfl, ?_⟩))
  show X T zX9_init 8 136 5360 P 75 [(0, .ref 0)] [.ref 66, .ref 0] (72, sh105, 71, 3061) J105 S105 L
  have Q106 := Q100.ch o105 (by omega)
  have h107 := h101.ch o105 (by omega)
  have h108 := h102.ch o105 (by omega)
  have h109 := h103.ch o105 (by omega)
  have h110 := h104.ch o105 (by omega)
  have u111 := (o105 0 (by omega)).1.trans u99_0
  have u112 := (o105 65 (by omega)).1.trans u99_1
  have g113 := (congrFun (o105 0 (by omega)).2.2 0).trans g86
  have g114 := (congrFun (o105 0 (by omega)).2.2 1).trans g87
  have g115 := (congrFun (o105 0 (by omega)).2.2 2).trans g88
  have g116 := (congrFun (o105 0 (by omega)).2.1 3).trans g97
  have g117 := (congrFun (o105 0 (by omega)).2.2 4).trans g89
  have g118 := (congrFun (o105 0 (by omega)).2.2 5).trans g90
  have g119 := (congrFun (o105 0 (by omega)).2.1 6).trans g98
  refine x_putrF (pc := 75) dX9_init_75 kf_RX9_48 rfl rfl u111 rfl ?_
  have F120 : FRS 72 J105 (up2 S105 0 7 (some 66)) L := F105.pS (by omega) (by omega)
  have Q121 : OLD 0 sh sh105 I J105 R (up2 S105 0 7 (some 66)) := Q106.pR (Nat.le_refl _)
  have h122 := h107.pR (c := 0) (k := 7) (o := (some 66)) (by omega)
  have h123 := h108.pR (c := 0) (k := 7) (o := (some 66)) (by omega)
  have h124 := h109.pR (c := 0) (k := 7) (o := (some 66)) (by omega)
  have h125 := h110.pR (c := 0) (k := 7) (o := (some 66)) (by omega)
  have h126 := h105.pR (c := 0) (k := 7) (o := (some 66)) (by omega)
  have g127 : (up2 S105 0 7 (some 66)) 0 0 = (some 1) := (up2_k (by decide)).trans g113
  have g128 : (up2 S105 0 7 (some 66)) 0 1 = (some 19) := (up2_k (by decide)).trans g114
  have g129 : (up2 S105 0 7 (some 66)) 0 2 = (some 37) := (up2_k (by decide)).trans g115
  have g130 : (up2 S105 0 7 (some 66)) 0 4 = (some 55) := (up2_k (by decide)).trans g117
  have g131 : (up2 S105 0 7 (some 66)) 0 5 = (some 65) := (up2_k (by decide)).trans g118
  have g132 : (up2 S105 0 7 (some 66)) 0 7 = (some 66) := up2_s
  refine x_aload_n (pc := 78) dX9_init_78 rfl rfl ?_
  refine x_newK (pc := 79) (ca1 := 72) (sa1 := 3065) (n1 := 73) dX9_init_79 kc_RX9_52 F120 (List.forall_mem_cons.mpr ⟨xvr_ok (by omega), fun _ h => absurd h List.not_mem_nil⟩) (List.forall_mem_cons.mpr ⟨xvr_ok (by omega), fun _ h => absurd h List.not_mem_nil⟩) rfl rfl rfl (by decide) (by decide) (fun sh133 a133 b133 => ?_)
  have u133_0 := (b133 _ (by omega)).trans u111
  have u133_1 := (b133 _ (by omega)).trans u112
  have F133 := F120.next (by omega)
  have Q134 := Q121.nw b133 (by omega)
  have h135 := h122.nw b133 (by omega)
  have h136 := h123.nw b133 (by omega)
  have h137 := h124.nw b133 (by omega)
  have h138 := h125.nw b133 (by omega)
  have h139 := h126.nw b133 (by omega)
  refine x_dup (pc := 82) dX9_init_82 rfl ?_
  refine x_callIN (pc := 83) (ci := 0) (As := []) (mc := 6) (ms := 24) (r := 72) dX9_init_83 km_X7_init ki_X7_init rfl rfl kn_RX9_54 rfl (by decide) ⟨Nat.le_of_ble_eq_true rfl, Nat.le_of_ble_eq_true rfl⟩ rfl (Nat.le_of_ble_eq_true rfl) (Nat.le_of_ble_eq_true rfl) ⟨by omega, (List.forall_mem_cons.mpr ⟨xvr_ok (by omega), List.forall_mem_cons.mpr ⟨xvr_ok (by omega), fun _ h => absurd h List.not_mem_nil⟩⟩), (List.forall_mem_cons.mpr ⟨xvr_ok (by omega), fun _ h => absurd h List.not_mem_nil⟩)⟩ (i_seat (r := 72) (n2 := 79) rfl F133 (by omega) rfl a133 (fun sh140 J140 S140 h140 o140 F140 => ⟨rfl, ?_⟩))
  show X T zX9_init 8 136 5360 P 86 [(0, .ref 0)] [.ref 72, .ref 0] (79, sh140, 78, 3089) J140 S140 L
  have Q141 := Q134.ch o140 (by omega)
  have h142 := h135.ch o140 (by omega)
  have h143 := h136.ch o140 (by omega)
  have h144 := h137.ch o140 (by omega)
  have h145 := h138.ch o140 (by omega)
  have h146 := h139.ch o140 (by omega)
  have u147 := (o140 0 (by omega)).1.trans u133_0
  have u148 := (o140 65 (by omega)).1.trans u133_1
  have g149 := (congrFun (o140 0 (by omega)).2.2 0).trans g127
  have g150 := (congrFun (o140 0 (by omega)).2.2 1).trans g128
  have g151 := (congrFun (o140 0 (by omega)).2.2 2).trans g129
  have g152 := (congrFun (o140 0 (by omega)).2.1 3).trans g116
  have g153 := (congrFun (o140 0 (by omega)).2.2 4).trans g130
  have g154 := (congrFun (o140 0 (by omega)).2.2 5).trans g131
  have g155 := (congrFun (o140 0 (by omega)).2.1 6).trans g119
  have g156 := (congrFun (o140 0 (by omega)).2.2 7).trans g132
  refine x_putrF (pc := 86) dX9_init_86 kf_RX9_55 rfl rfl u147 rfl ?_
  have F157 : FRS 79 J140 (up2 S140 0 8 (some 72)) L := F140.pS (by omega) (by omega)
  have Q158 : OLD 0 sh sh140 I J140 R (up2 S140 0 8 (some 72)) := Q141.pR (Nat.le_refl _)
  have h159 := h142.pR (c := 0) (k := 8) (o := (some 72)) (by omega)
  have h160 := h143.pR (c := 0) (k := 8) (o := (some 72)) (by omega)
  have h161 := h144.pR (c := 0) (k := 8) (o := (some 72)) (by omega)
  have h162 := h145.pR (c := 0) (k := 8) (o := (some 72)) (by omega)
  have h163 := h146.pR (c := 0) (k := 8) (o := (some 72)) (by omega)
  have h164 := h140.pR (c := 0) (k := 8) (o := (some 72)) (by omega)
  have g165 : (up2 S140 0 8 (some 72)) 0 0 = (some 1) := (up2_k (by decide)).trans g149
  have g166 : (up2 S140 0 8 (some 72)) 0 1 = (some 19) := (up2_k (by decide)).trans g150
  have g167 : (up2 S140 0 8 (some 72)) 0 2 = (some 37) := (up2_k (by decide)).trans g151
  have g168 : (up2 S140 0 8 (some 72)) 0 4 = (some 55) := (up2_k (by decide)).trans g153
  have g169 : (up2 S140 0 8 (some 72)) 0 5 = (some 65) := (up2_k (by decide)).trans g154
  have g170 : (up2 S140 0 8 (some 72)) 0 7 = (some 66) := (up2_k (by decide)).trans g156
  have g171 : (up2 S140 0 8 (some 72)) 0 8 = (some 72) := up2_s
  refine x_aload_n (pc := 89) dX9_init_89 rfl rfl ?_
  refine x_newK (pc := 90) (ca1 := 79) (sa1 := 3094) (n1 := 80) dX9_init_90 kc_RX9_59 F157 (List.forall_mem_cons.mpr ⟨xvr_ok (by omega), fun _ h => absurd h List.not_mem_nil⟩) (List.forall_mem_cons.mpr ⟨xvr_ok (by omega), fun _ h => absurd h List.not_mem_nil⟩) rfl rfl rfl (by decide) (by decide) (fun sh172 a172 b172 => ?_)
  have u172_0 := (b172 _ (by omega)).trans u147
  have u172_1 := (b172 _ (by omega)).trans u148
  have F172 := F157.next (by omega)
  have Q173 := Q158.nw b172 (by omega)
  have h174 := h159.nw b172 (by omega)
  have h175 := h160.nw b172 (by omega)
  have h176 := h161.nw b172 (by omega)
  have h177 := h162.nw b172 (by omega)
  have h178 := h163.nw b172 (by omega)
  have h179 := h164.nw b172 (by omega)
  refine x_dup (pc := 93) dX9_init_93 rfl ?_
  refine x_callIN (pc := 94) (ci := 0) (As := []) (mc := 2) (ms := 22) (r := 79) dX9_init_94 km_X0_init ki_X0_init rfl rfl kn_RX9_61 rfl (by decide) ⟨Nat.le_of_ble_eq_true rfl, Nat.le_of_ble_eq_true rfl⟩ rfl (Nat.le_of_ble_eq_true rfl) (Nat.le_of_ble_eq_true rfl) ⟨by omega, (List.forall_mem_cons.mpr ⟨xvr_ok (by omega), List.forall_mem_cons.mpr ⟨xvr_ok (by omega), fun _ h => absurd h List.not_mem_nil⟩⟩), (List.forall_mem_cons.mpr ⟨xvr_ok (by omega), fun _ h => absurd h List.not_mem_nil⟩)⟩ (i_acts (r := 79) (n2 := 82) rfl F172 (by omega) rfl a172 (fun sh180 J180 S180 h180 o180 F180 => ⟨rfl, ?_⟩))
  show X T zX9_init 8 136 5360 P 97 [(0, .ref 0)] [.ref 79, .ref 0] (82, sh180, 81, 3116) J180 S180 L
  have Q181 := Q173.ch o180 (by omega)
  have h182 := h174.ch o180 (by omega)
  have h183 := h175.ch o180 (by omega)
  have h184 := h176.ch o180 (by omega)
  have h185 := h177.ch o180 (by omega)
  have h186 := h178.ch o180 (by omega)
  have h187 := h179.ch o180 (by omega)
  have u188 := (o180 0 (by omega)).1.trans u172_0
  have u189 := (o180 65 (by omega)).1.trans u172_1
  have g190 := (congrFun (o180 0 (by omega)).2.2 0).trans g165
  have g191 := (congrFun (o180 0 (by omega)).2.2 1).trans g166
  have g192 := (congrFun (o180 0 (by omega)).2.2 2).trans g167
  have g193 := (congrFun (o180 0 (by omega)).2.1 3).trans g152
  have g194 := (congrFun (o180 0 (by omega)).2.2 4).trans g168
  have g195 := (congrFun (o180 0 (by omega)).2.2 5).trans g169
  have g196 := (congrFun (o180 0 (by omega)).2.1 6).trans g155
  have g197 := (congrFun (o180 0 (by omega)).2.2 7).trans g170
  have g198 := (congrFun (o180 0 (by omega)).2.2 8).trans g171
  refine x_putrF (pc := 97) dX9_init_97 kf_RX9_62 rfl rfl u188 rfl ?_
  have F199 : FRS 82 J180 (up2 S180 0 9 (some 79)) L := F180.pS (by omega) (by omega)
  have Q200 : OLD 0 sh sh180 I J180 R (up2 S180 0 9 (some 79)) := Q181.pR (Nat.le_refl _)
  have h201 := h182.pR (c := 0) (k := 9) (o := (some 79)) (by omega)
  have h202 := h183.pR (c := 0) (k := 9) (o := (some 79)) (by omega)
  have h203 := h184.pR (c := 0) (k := 9) (o := (some 79)) (by omega)
  have h204 := h185.pR (c := 0) (k := 9) (o := (some 79)) (by omega)
  have h205 := h186.pR (c := 0) (k := 9) (o := (some 79)) (by omega)
  have h206 := h187.pR (c := 0) (k := 9) (o := (some 79)) (by omega)
  have h207 := h180.pR (c := 0) (k := 9) (o := (some 79)) (by omega)
  have g208 : (up2 S180 0 9 (some 79)) 0 0 = (some 1) := (up2_k (by decide)).trans g190
  have g209 : (up2 S180 0 9 (some 79)) 0 1 = (some 19) := (up2_k (by decide)).trans g191
  have g210 : (up2 S180 0 9 (some 79)) 0 2 = (some 37) := (up2_k (by decide)).trans g192
  have g211 : (up2 S180 0 9 (some 79)) 0 4 = (some 55) := (up2_k (by decide)).trans g194
  have g212 : (up2 S180 0 9 (some 79)) 0 5 = (some 65) := (up2_k (by decide)).trans g195
  have g213 : (up2 S180 0 9 (some 79)) 0 7 = (some 66) := (up2_k (by decide)).trans g197
  have g214 : (up2 S180 0 9 (some 79)) 0 8 = (some 72) := (up2_k (by decide)).trans g198
  have g215 : (up2 S180 0 9 (some 79)) 0 9 = (some 79) := up2_s
  refine x_aload_n (pc := 100) dX9_init_100 rfl rfl ?_
  refine x_bipush (pc := 101) (v := 6) dX9_init_101 (by decide) ?_
  refine x_anewK (pc := 103) (t := 5) (len := 6) (ca1 := 82) (sa1 := 3122) (n1 := 83) dX9_init_103 (Or.inr ⟨rfl, rfl⟩) ka_RX9_66 rfl (by decide) F199 (List.forall_mem_cons.mpr ⟨xvr_ok (by omega), fun _ h => absurd h List.not_mem_nil⟩) (List.forall_mem_cons.mpr ⟨xvr_ok (by omega), fun _ h => absurd h List.not_mem_nil⟩) rfl rfl rfl (by decide) (by decide) (fun sh216 a216 b216 => ?_)
  have u216_0 := (b216 _ (by omega)).trans u188
  have u216_1 := (b216 _ (by omega)).trans u189
  have F216 := F199.next (by omega)
  have Q217 := Q200.nw b216 (by omega)
  have h218 := h201.nw b216 (by omega)
  have h219 := h202.nw b216 (by omega)
  have h220 := h203.nw b216 (by omega)
  have h221 := h204.nw b216 (by omega)
  have h222 := h205.nw b216 (by omega)
  have h223 := h206.nw b216 (by omega)
  have h224 := h207.nw b216 (by omega)
  refine x_putrF (pc := 106) dX9_init_106 kf_RX9_68 rfl rfl u216_0 rfl ?_
  have F225 : FRS 83 J180 (up2 (up2 S180 0 9 (some 79)) 0 10 (some 82)) L := F216.pS (by omega) (by omega)
  have Q226 : OLD 0 sh sh216 I J180 R (up2 (up2 S180 0 9 (some 79)) 0 10 (some 82)) := Q217.pR (Nat.le_refl _)
  have h227 := h218.pR (c := 0) (k := 10) (o := (some 82)) (by omega)
  have h228 := h219.pR (c := 0) (k := 10) (o := (some 82)) (by omega)
  have h229 := h220.pR (c := 0) (k := 10) (o := (some 82)) (by omega)
  have h230 := h221.pR (c := 0) (k := 10) (o := (some 82)) (by omega)
  have h231 := h222.pR (c := 0) (k := 10) (o := (some 82)) (by omega)
  have h232 := h223.pR (c := 0) (k := 10) (o := (some 82)) (by omega)
  have h233 := h224.pR (c := 0) (k := 10) (o := (some 82)) (by omega)
  have g234 : (up2 (up2 S180 0 9 (some 79)) 0 10 (some 82)) 0 0 = (some 1) := (up2_k (by decide)).trans g208
  have g235 : (up2 (up2 S180 0 9 (some 79)) 0 10 (some 82)) 0 1 = (some 19) := (up2_k (by decide)).trans g209
  have g236 : (up2 (up2 S180 0 9 (some 79)) 0 10 (some 82)) 0 2 = (some 37) := (up2_k (by decide)).trans g210
  have g237 : (up2 (up2 S180 0 9 (some 79)) 0 10 (some 82)) 0 4 = (some 55) := (up2_k (by decide)).trans g211
  have g238 : (up2 (up2 S180 0 9 (some 79)) 0 10 (some 82)) 0 5 = (some 65) := (up2_k (by decide)).trans g212
  have g239 : (up2 (up2 S180 0 9 (some 79)) 0 10 (some 82)) 0 7 = (some 66) := (up2_k (by decide)).trans g213
  have g240 : (up2 (up2 S180 0 9 (some 79)) 0 10 (some 82)) 0 8 = (some 72) := (up2_k (by decide)).trans g214
  have g241 : (up2 (up2 S180 0 9 (some 79)) 0 10 (some 82)) 0 9 = (some 79) := (up2_k (by decide)).trans g215
  have g242 : (up2 (up2 S180 0 9 (some 79)) 0 10 (some 82)) 0 10 = (some 82) := up2_s
  refine x_iconst (pc := 109) (v := 0) dX9_init_109 (by decide) ?_
  refine x_istore_n (pc := 110) (lv' := [(0, .ref 0), (1, .int (nI 0))]) dX9_init_110 rfl (by decide) rfl ?_
  refine l_i9a (sh0 := sh216) (I0 := J180) (R0 := (up2 (up2 S180 0 9 (some 79)) 0 10 (some 82))) u216_1 u216_0 g238 (fun shA JA SA kR kI kA FA => ?_) 6 0 (by decide) 83 82 3122 sh216 J180 (up2 (up2 S180 0 9 (some 79)) 0 10 (some 82)) rfl rfl rfl F225 (fun _ _ _ => rfl) (fun _ _ => ⟨rfl, rfl⟩) (fun j hj => absurd hj (Nat.not_lt_zero j))
  refine x_iconst (pc := 145) (v := 0) dX9_init_145 (by decide) ?_
  refine x_istore_n (pc := 146) (lv' := [(0, .ref 0), (1, .int (nI 0))]) dX9_init_146 rfl (by decide) rfl ?_
  refine l_i9b (sh0 := shA) (I0 := JA) (R0 := SA) ((kI 82 (by omega)).1.trans a216) ((kI 0 (by omega)).1.trans u216_0) ((congrFun (kR 0 (by omega) (by omega)) 10).trans g242) (fun shB JB SB lR lI lA FB => ?_) 6 0 (by decide) 125 124 4982 shA JA SA rfl rfl rfl FA (fun _ _ _ => rfl) (fun _ _ => ⟨rfl, rfl⟩) (fun j hj => absurd hj (Nat.not_lt_zero j))
  refine x_return (pc := 181) dX9_init_181 rfl ⟨Nat.le_of_ble_eq_true rfl, Nat.le_of_ble_eq_true rfl⟩ ?_
  refine K shB JB SB (fun sh3 I3 R3 ag => ?_) FB
  have mA : ∀ a, a < 83 → a ≠ 65 → a ≠ 82 → sh3 a = sh216 a ∧ I3 a = J180 a ∧ R3 a = (up2 (up2 S180 0 9 (some 79)) 0 10 (some 82)) a := fun a q z1 z2 => by
    obtain ⟨g1, g2, g3⟩ := ag a (Nat.zero_le _) (by omega)
    exact ⟨g1.trans ((lI a (by omega)).1.trans (kI a q).1), g2.trans ((lI a (by omega)).2.trans (kI a q).2), g3.trans ((lR a (by omega) z2).trans (kR a q z1))⟩
  obtain ⟨gs, gi, gr⟩ := mA 0 (by omega) (by omega) (by omega)
  exact ⟨gs.trans u216_0, (congrFun gr 0).trans g234, (congrFun gr 1).trans g235, (congrFun gr 2).trans g236, (congrFun gr 4).trans g237, (congrFun gr 5).trans g238, (congrFun gr 7).trans g239, (congrFun gr 8).trans g240, (congrFun gr 9).trans g241, (congrFun gr 10).trans g242, (congrFun gi 3).trans g193, (congrFun gi 6).trans g196, h227 sh3 I3 R3 (fun a p q => mA a (by omega) (by omega) (by omega)), h228 sh3 I3 R3 (fun a p q => mA a (by omega) (by omega) (by omega)), h229 sh3 I3 R3 (fun a p q => mA a (by omega) (by omega) (by omega)), h230 sh3 I3 R3 (fun a p q => mA a (by omega) (by omega) (by omega)), h231 sh3 I3 R3 (fun a p q => mA a (by omega) (by omega) (by omega)), h232 sh3 I3 R3 (fun a p q => mA a (by omega) (by omega) (by omega)), h233 sh3 I3 R3 (fun a p q => mA a (by omega) (by omega) (by omega)), (ag 65 (by omega) (by omega)).1.trans ((lI 65 (by omega)).1.trans ((kI 65 (by omega)).1.trans u216_1)), (fun j hj => ⟨(((kA j hj).1.keep (fun a p q => ⟨(lI a (by omega)).1, (lI a (by omega)).2, lR a (by omega) (by omega)⟩)) sh3 I3 R3 (fun a p q => ag a (by omega) (by omega))), (congrFun ((ag 65 (by omega) (by omega)).2.2.trans (lR 65 (by omega) (by omega))) j).trans (kA j hj).2⟩), (ag 82 (by omega) (by omega)).1.trans ((lI 82 (by omega)).1.trans ((kI 82 (by omega)).1.trans a216)), fun j hj => ⟨(lA j hj).1 sh3 I3 R3 (fun a p q => ag a (by omega) (by omega)), (congrFun (ag 82 (by omega) (by omega)).2.2 j).trans (lA j hj).2⟩⟩

