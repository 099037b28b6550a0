/-! ===== gone: the reference ===== -/
set_option maxHeartbeats 4000000 in
set_option maxRecDepth 100000 in
theorem lm_gone10 {T : xT} {n : Nat} {sh : Nat → Nat × Nat} {I : xI} {R : xR} {L : xL} {P : xPost} {M b : Nat} (hM : xModel sh R M) {cv rv : Int32} {t : Nat} {ce : Nat → Nat} (hta : I M 27 = nI t) (ht : t < 36) (hb : b < 6) (hce : ce b < 36) (K : P (n, sh, 0, 0) I R L (some (.int (cv))))  :  X T zX10_gone 6 0 0 P 131 [(0, .ref M), (1, .int 10), (2, .int cv), (3, .int rv)] [] (n, sh, 0, 0) (I) R L := by
  refine x_iload_n (pc := 131) dX10_gone_131 rfl rfl ?_
  refine x_bipush (pc := 132) (v := 6) dX10_gone_132 (by decide) ?_
  refine x_icmp_ge_t (pc := 134) (tgt := 146) dX10_gone_134 (by decide) (by decide) ?_
  refine x_iload_n (pc := 146) dX10_gone_146 rfl rfl ?_
  refine x_bipush (pc := 147) (v := 10) dX10_gone_147 (by decide) ?_
  refine x_icmp_ne_f (pc := 149) (tgt := 156) dX10_gone_149 (by decide) (by decide) ?_
  refine x_iload_n (pc := 152) dX10_gone_152 rfl rfl ?_
  refine x_goto (pc := 153) (tgt := 170) dX10_gone_153 (by decide) ?_
  refine x_ireturn (pc := 170) dX10_gone_170 ⟨_, rfl, rfl⟩ ⟨Nat.le_refl _, Nat.le_refl _⟩ ?_
  exact K

set_option maxHeartbeats 4000000 in
set_option maxRecDepth 100000 in
theorem lm_gone11 {T : xT} {n : Nat} {sh : Nat → Nat × Nat} {I : xI} {R : xR} {L : xL} {P : xPost} {M b : Nat} (hM : xModel sh R M) {cv rv : Int32} {t : Nat} {ce : Nat → Nat} (hta : I M 27 = nI t) (ht : t < 36) (hb : b < 6) (hce : ce b < 36) (K : P (n, sh, 0, 0) I R L (some (.int (rv))))  :  X T zX10_gone 6 0 0 P 131 [(0, .ref M), (1, .int 11), (2, .int cv), (3, .int rv)] [] (n, sh, 0, 0) (I) R L := by
  refine x_iload_n (pc := 131) dX10_gone_131 rfl rfl ?_
  refine x_bipush (pc := 132) (v := 6) dX10_gone_132 (by decide) ?_
  refine x_icmp_ge_t (pc := 134) (tgt := 146) dX10_gone_134 (by decide) (by decide) ?_
  refine x_iload_n (pc := 146) dX10_gone_146 rfl rfl ?_
  refine x_bipush (pc := 147) (v := 10) dX10_gone_147 (by decide) ?_
  refine x_icmp_ne_t (pc := 149) (tgt := 156) dX10_gone_149 (by decide) (by decide) ?_
  refine x_iload_n (pc := 156) dX10_gone_156 rfl rfl ?_
  refine x_bipush (pc := 157) (v := 11) dX10_gone_157 (by decide) ?_
  refine x_icmp_ne_f (pc := 159) (tgt := 166) dX10_gone_159 (by decide) (by decide) ?_
  refine x_iload_n (pc := 162) dX10_gone_162 rfl rfl ?_
  refine x_goto (pc := 163) (tgt := 170) dX10_gone_163 (by decide) ?_
  refine x_ireturn (pc := 170) dX10_gone_170 ⟨_, rfl, rfl⟩ ⟨Nat.le_refl _, Nat.le_refl _⟩ ?_
  exact K

set_option maxHeartbeats 4000000 in
set_option maxRecDepth 100000 in
theorem lm_gone12 {T : xT} {n : Nat} {sh : Nat → Nat × Nat} {I : xI} {R : xR} {L : xL} {P : xPost} {M b : Nat} (hM : xModel sh R M) {cv rv : Int32} {t : Nat} {ce : Nat → Nat} (hta : I M 27 = nI t) (ht : t < 36) (hb : b < 6) (hce : ce b < 36) (K : P (n, sh, 0, 0) I R L (some (.int (nI t))))  :  X T zX10_gone 6 0 0 P 131 [(0, .ref M), (1, .int 12), (2, .int cv), (3, .int rv)] [] (n, sh, 0, 0) (I) R L := by
  refine x_iload_n (pc := 131) dX10_gone_131 rfl rfl ?_
  refine x_bipush (pc := 132) (v := 6) dX10_gone_132 (by decide) ?_
  refine x_icmp_ge_t (pc := 134) (tgt := 146) dX10_gone_134 (by decide) (by decide) ?_
  refine x_iload_n (pc := 146) dX10_gone_146 rfl rfl ?_
  refine x_bipush (pc := 147) (v := 10) dX10_gone_147 (by decide) ?_
  refine x_icmp_ne_t (pc := 149) (tgt := 156) dX10_gone_149 (by decide) (by decide) ?_
  refine x_iload_n (pc := 156) dX10_gone_156 rfl rfl ?_
  refine x_bipush (pc := 157) (v := 11) dX10_gone_157 (by decide) ?_
  refine x_icmp_ne_t (pc := 159) (tgt := 166) dX10_gone_159 (by decide) (by decide) ?_
  refine x_aload_n (pc := 166) dX10_gone_166 rfl rfl ?_
  refine x_get (pc := 167) dX10_gone_167 kf_RX10_92 hM.s rfl ?_
  rw [hta]
  refine x_ireturn (pc := 170) dX10_gone_170 ⟨_, rfl, rfl⟩ ⟨Nat.le_refl _, Nat.le_refl _⟩ ?_
  exact K

set_option maxHeartbeats 4000000 in
set_option maxRecDepth 100000 in
theorem lm_goneb {T : xT} {n : Nat} {sh : Nat → Nat × Nat} {I : xI} {R : xR} {L : xL} {P : xPost} {M b : Nat} (hM : xModel sh R M) {cv rv : Int32} {t : Nat} {ce : Nat → Nat} (hta : I M 27 = nI t) (ht : t < 36) (hb : b < 6) (hce : ce b < 36) (hc : I (M + 16) b = nI (ce b)) (K : P (n, sh, 0, 0) I R L (some (.int (nI (ce b)))))  :  X T zX10_gone 6 0 0 P 131 [(0, .ref M), (1, .int (nI b)), (2, .int cv), (3, .int rv)] [] (n, sh, 0, 0) (I) R L := by
  refine x_iload_n (pc := 131) dX10_gone_131 rfl rfl ?_
  refine x_bipush (pc := 132) (v := 6) dX10_gone_132 (by decide) ?_
  refine x_icmpn_ge_f (pc := 134) (tgt := 146) (a := b) (b := 6) dX10_gone_134 (by decide) (by omega) (by decide) (by omega) ?_
  refine x_aload_n (pc := 137) dX10_gone_137 rfl rfl ?_
  refine x_getr (pc := 138) dX10_gone_138 kf_RX10_101 hM.s rfl hM.f15 ?_
  refine x_iload_n (pc := 141) dX10_gone_141 rfl rfl ?_
  refine x_ialdn (pc := 142) (a := b) dX10_gone_142 hM.s15 (by omega) (by omega) ?_
  rw [hc]
  refine x_goto (pc := 143) (tgt := 170) dX10_gone_143 (by decide) ?_
  refine x_ireturn (pc := 170) dX10_gone_170 ⟨_, rfl, rfl⟩ ⟨Nat.le_refl _, Nat.le_refl _⟩ ?_
  exact K

set_option maxHeartbeats 4000000 in
set_option maxRecDepth 100000 in
theorem lm_gone {T : xT} {n : Nat} {sh : Nat → Nat × Nat} {I : xI} {R : xR} {L : xL} {P : xPost} {M : Nat} (hM : xModel sh R M) {V : xV} {B : Nat} {ars : Nat → xAR} (hv : VOK V B) (hB : B < 800000) (h : MDV I M V) {x : Int32} (hx : x = 10 ∨ x = 11 ∨ x = 12 ∨ ∃ b : Nat, b < V 8 0 ∧ x = nI b) (K : ∀ I2 : xI, MDV I2 M V → mdP M I I2 → P (n, sh, 0, 0) I2 R L (some (.int (spGone V (rgVal ars V) x))))  : ∀ (w i : Nat), i + w = V 8 4 → ∀ (J : xI), MS sh R J M (V 8 0) (V 0) (V 1) (gn V (rgVal ars V) i).1 (V 3) (V 4) (gn V (rgVal ars V) i).2 (V 8 2 + i) 0 (rgVal ars V) → mdT M I J → X T zX10_gone 6 0 0 P 42 [(0, .ref M), (1, .int x), (2, .int (fstV (cauP V (rgVal ars V))  i)), (3, .int (fstV (refP V (rgVal ars V))  i)), (4, .int (nI i))] [] (n, sh, 0, 0) (J) R L := by
  obtain ⟨v6, v12, v10, vb, vf, vw, vm, vta, vte, vod, vrg, vdi⟩ := id hv
  intro w
  induction w with
  | zero =>
    intro i hw J hj ff
    have hz : i = V 8 4 := by omega
    have hst := (h.keepT ff).2.2.2.2.1
    refine x_iload (pc := 42) dX10_gone_42 rfl ?_
    refine x_aload_n (pc := 44) dX10_gone_44 rfl rfl ?_
    refine x_get (pc := 45) dX10_gone_45 kf_RX10_126 hM.s rfl ?_
    rw [hst]
    refine x_icmpn_ge_t (pc := 48) (tgt := 131) (a := i) (b := (V 8 4)) dX10_gone_48 (by decide) (by omega) (by omega) (by omega) ?_
    subst hz
    have h9 := K J (h.keepT ff) ff.mdP
    refine X.keep [0, 1, 2, 3] rfl ?_
    rcases hx with hx | hx | hx | ⟨b, hb, hx⟩
    · subst hx
      rw [spGone_10 v6] at h9
      exact lm_gone10 (b := 0) (ce := fun _ => 0) hM hj.2.2.2.2.2.2.2.2.2.1 hj.2.2.2.2.2.2.2.2.2.2.1 (by decide) (by decide) h9
    · subst hx
      rw [spGone_11 v6] at h9
      exact lm_gone11 (b := 0) (ce := fun _ => 0) hM hj.2.2.2.2.2.2.2.2.2.1 hj.2.2.2.2.2.2.2.2.2.2.1 (by decide) (by decide) h9
    · subst hx
      rw [spGone_12 v6] at h9
      exact lm_gone12 (b := 0) (ce := fun _ => 0) hM hj.2.2.2.2.2.2.2.2.2.1 hj.2.2.2.2.2.2.2.2.2.2.1 (by decide) (by decide) h9
    · subst hx
      rw [spGone_b v6 hb] at h9
      exact lm_goneb hM hj.2.2.2.2.2.2.2.2.2.1 hj.2.2.2.2.2.2.2.2.2.2.1 (by omega) ((hj.2.2.2.2.2.2.2.2.1 b hb).2.2.1) (hj.2.2.2.2.2.1 b hb) h9
  | succ w ih =>
    intro i hw J hj ff
    have hi : i < V 8 4 := by omega
    have hjw := (h.keepT ff).2.2.2.2.2.2.2.2.1
    have hst := (h.keepT ff).2.2.2.2.1
    refine x_iload (pc := 42) dX10_gone_42 rfl ?_
    refine x_aload_n (pc := 44) dX10_gone_44 rfl rfl ?_
    refine x_get (pc := 45) dX10_gone_45 kf_RX10_126 hM.s rfl ?_
    rw [hst]
    refine x_icmpn_ge_f (pc := 48) (tgt := 131) (a := i) (b := (V 8 4)) dX10_gone_48 (by decide) (by omega) (by omega) (by omega) ?_
    refine x_aload_n (pc := 51) dX10_gone_51 rfl rfl ?_
    refine x_aload_n (pc := 52) dX10_gone_52 rfl rfl ?_
    refine x_getr (pc := 53) dX10_gone_53 kf_RX10_129 hM.s rfl hM.f18 ?_
    refine x_iload (pc := 56) dX10_gone_56 rfl ?_
    refine x_ialdn (pc := 58) (a := i) dX10_gone_58 hM.s18 (by omega) (by omega) ?_
    rw [hjw i hi]
    refine x_callV (pc := 59) (As := [.int _]) dX10_gone_59 km_X10_mayGo kv_X10_mayGo kl_RX10_350 hM.s rfl rfl (by decide) ⟨Nat.le_refl _, Nat.le_refl _⟩ rfl (Nat.le_of_ble_eq_true rfl) (Nat.le_of_ble_eq_true rfl) (m_mayGo hj (vw i hi) (fun hm => ⟨rfl, rfl, ?_⟩) (fun hm => ⟨rfl, rfl, ?_⟩))
    · skip
      refine x_istore (pc := 62) (lv' := [(0, .ref M), (1, .int x), (2, .int (fstV (cauP V (rgVal ars V))  i)), (3, .int (fstV (refP V (rgVal ars V))  i)), (4, .int (nI i)), (5, .int 1)]) dX10_gone_62 (by decide) rfl ?_
      refine x_iload (pc := 64) dX10_gone_64 rfl ?_
      refine x_if_ne_t (pc := 66) (tgt := 78) dX10_gone_66 (by decide) (by decide) ?_
      refine x_iload_n (pc := 78) dX10_gone_78 rfl rfl ?_
      refine x_istore_n (pc := 79) (lv' := [(0, .ref M), (1, .int x), (2, .int (fstV (cauP V (rgVal ars V))  i)), (3, .int (fstV (refP V (rgVal ars V))  i)), (4, .int (nI i)), (5, .int 1)]) dX10_gone_79 rfl (by decide) rfl ?_
      refine x_aload_n (pc := 80) dX10_gone_80 rfl rfl ?_
      refine x_iload (pc := 81) dX10_gone_81 rfl ?_
      refine x_if_eq_f (pc := 83) (tgt := 96) dX10_gone_83 (by decide) (by decide) ?_
      refine x_aload_n (pc := 86) dX10_gone_86 rfl rfl ?_
      refine x_getr (pc := 87) dX10_gone_87 kf_RX10_129 hM.s rfl hM.f18 ?_
      refine x_iload (pc := 90) dX10_gone_90 rfl ?_
      refine x_ialdn (pc := 92) (a := i) dX10_gone_92 hM.s18 (by omega) (by omega) ?_
      rw [hjw i hi]
      refine x_goto (pc := 93) (tgt := 100) dX10_gone_93 (by decide) ?_
      refine x_put (pc := 100) dX10_gone_100 kf_RX10_92 hM.s rfl (Or.inl kb_10_27) ?_
      first | (have ej : up2 J M 27 (nI (V 6 i)) = up2 J M 27 (nI (gT V (gn V (rgVal ars V) i) i)) := by rw [gT_t hm]) | (have ej : up2 J M 27 (nI (gn V (rgVal ars V) i).2) = up2 J M 27 (nI (gT V (gn V (rgVal ars V) i) i)) := by rw [gT_f hm])
      have hgt : (gT V (gn V (rgVal ars V) i) i) < 36 := by first | (rw [gT_t hm]; exact vw i hi) | (rw [gT_f hm]; exact hj.2.2.2.2.2.2.2.2.2.2.1)
      have hj1 : MS sh R (up2 J M 27 (nI (gT V (gn V (rgVal ars V) i) i))) M (V 8 0) (V 0) (V 1) (gn V (rgVal ars V) i).1 (V 3) (V 4) (gT V (gn V (rgVal ars V) i) i) (V 8 2 + i) 0 (rgVal ars V) := hj.setTamer hgt
      have ff9 : mdT M I (up2 J M 27 (nI (gT V (gn V (rgVal ars V) i) i))) := ff.tr (mdT.fld (by decide))
      refine X.heap ej ?_
      refine x_aload_n (pc := 103) dX10_gone_103 rfl rfl ?_
      refine x_callV (pc := 104) (As := []) dX10_gone_104 km_X10_goTenth kv_X10_goTenth kl_RX10_344 hM.s rfl rfl (by decide) ⟨Nat.le_refl _, Nat.le_refl _⟩ rfl (Nat.le_of_ble_eq_true rfl) (Nat.le_of_ble_eq_true rfl) (m_goTenth hj1 (by omega) (fun I2 h3 f2 => ⟨rfl, rfl, ?_⟩))
      have h3 := (show MS sh R I2 M (V 8 0) (V 0) (V 1) (gn V (rgVal ars V) (i + 1)).1 (V 3) (V 4) (gn V (rgVal ars V) (i + 1)).2 (V 8 2 + (i + 1)) 0 (rgVal ars V) from h3)
      refine x_aload_n (pc := 107) dX10_gone_107 rfl rfl ?_
      refine x_callV (pc := 108) (As := []) dX10_gone_108 km_X10_caught kv_X10_caught kl_RX10_347 hM.s rfl rfl (by decide) ⟨Nat.le_refl _, Nat.le_refl _⟩ rfl (Nat.le_of_ble_eq_true rfl) (Nat.le_of_ble_eq_true rfl) (m_caught hM h3.2.2.1 v6 h3.2.2.2.2.2.1 (fun i hi => (h3.2.2.2.2.2.2.2.2.1 i hi).2.2.1) h3.2.2.2.2.2.2.2.2.2.1 h3.2.2.2.2.2.2.2.2.2.2.1 (fun k hk hkx hkm => ⟨rfl, rfl, ?_⟩) (fun hno => ⟨rfl, rfl, ?_⟩))
      · skip
        have hh : cauP V (rgVal ars V) i = true := held_t.mpr ⟨k, hk, hkx⟩
        refine x_ifn_lt (pc := 111) (a := k) dX10_gone_111 ⟨123, by decide⟩ (by omega) ?_
        refine x_iload_n (pc := 114) dX10_gone_114 rfl rfl ?_
        refine x_if_ge (pc := 115) (tgt := 123) dX10_gone_115 (by decide) (fun c115 => ?_) (fun c115 => ?_)
        · skip
          refine x_iload_n (pc := 123) dX10_gone_123 rfl rfl ?_
          refine x_istore_n (pc := 124) (lv' := [(0, .ref M), (1, .int x), (2, .int (fstV (cauP V (rgVal ars V))  i)), (3, .int (fstV (refP V (rgVal ars V))  i)), (4, .int (nI i)), (5, .int 1)]) dX10_gone_124 rfl (by decide) rfl ?_
          refine x_iinc (pc := 125) (v := nI (i + 1)) (lv' := [(0, .ref M), (1, .int x), (2, .int (fstV (cauP V (rgVal ars V))  i)), (3, .int (fstV (refP V (rgVal ars V))  i)), (4, .int (nI (i + 1))), (5, .int 1)]) dX10_gone_125 rfl (nI_1 _) (by decide) rfl ?_
          refine x_goto (pc := 128) (tgt := 42) dX10_gone_128 (by decide) ?_
          have h9 := ih (i + 1) (by omega) I2 h3 (ff9.tr (mdT.of2 f2))
          first
          | rw [fstV_keep (p := refP V (rgVal ars V)) (refP_f hm)] at h9
          | rw [fstV_new (p := refP V (rgVal ars V)) (by omega) (fstV_neg (by omega) c70) (refP_t hm)] at h9
          | rw [fstV_had (p := refP V (rgVal ars V)) (fstV_pos c70)] at h9
          first
          | rw [fstV_keep (p := cauP V (rgVal ars V)) hf] at h9
          | rw [fstV_had (p := cauP V (rgVal ars V)) (fstV_pos c115)] at h9
          | rw [fstV_new (p := cauP V (rgVal ars V)) (by omega) (fstV_neg (by omega) c115) hh] at h9
          exact X.keep [0, 1, 2, 3, 4] rfl h9
        · skip
          refine x_iload (pc := 118) dX10_gone_118 rfl ?_
          refine x_goto (pc := 120) (tgt := 124) dX10_gone_120 (by decide) ?_
          refine x_istore_n (pc := 124) (lv' := [(0, .ref M), (1, .int x), (2, .int (nI i)), (3, .int (fstV (refP V (rgVal ars V))  i)), (4, .int (nI i)), (5, .int 1)]) dX10_gone_124 rfl (by decide) rfl ?_
          refine x_iinc (pc := 125) (v := nI (i + 1)) (lv' := [(0, .ref M), (1, .int x), (2, .int (nI i)), (3, .int (fstV (refP V (rgVal ars V))  i)), (4, .int (nI (i + 1))), (5, .int 1)]) dX10_gone_125 rfl (nI_1 _) (by decide) rfl ?_
          refine x_goto (pc := 128) (tgt := 42) dX10_gone_128 (by decide) ?_
          have h9 := ih (i + 1) (by omega) I2 h3 (ff9.tr (mdT.of2 f2))
          first
          | rw [fstV_keep (p := refP V (rgVal ars V)) (refP_f hm)] at h9
          | rw [fstV_new (p := refP V (rgVal ars V)) (by omega) (fstV_neg (by omega) c70) (refP_t hm)] at h9
          | rw [fstV_had (p := refP V (rgVal ars V)) (fstV_pos c70)] at h9
          first
          | rw [fstV_keep (p := cauP V (rgVal ars V)) hf] at h9
          | rw [fstV_had (p := cauP V (rgVal ars V)) (fstV_pos c115)] at h9
          | rw [fstV_new (p := cauP V (rgVal ars V)) (by omega) (fstV_neg (by omega) c115) hh] at h9
          exact X.keep [0, 1, 2, 3, 4] rfl h9
      · skip
        have hf : cauP V (rgVal ars V) i = false := held_f hno
        refine x_if_lt_t (pc := 111) (tgt := 123) dX10_gone_111 (by decide) (by decide) ?_
        refine x_iload_n (pc := 123) dX10_gone_123 rfl rfl ?_
        refine x_istore_n (pc := 124) (lv' := [(0, .ref M), (1, .int x), (2, .int (fstV (cauP V (rgVal ars V))  i)), (3, .int (fstV (refP V (rgVal ars V))  i)), (4, .int (nI i)), (5, .int 1)]) dX10_gone_124 rfl (by decide) rfl ?_
        refine x_iinc (pc := 125) (v := nI (i + 1)) (lv' := [(0, .ref M), (1, .int x), (2, .int (fstV (cauP V (rgVal ars V))  i)), (3, .int (fstV (refP V (rgVal ars V))  i)), (4, .int (nI (i + 1))), (5, .int 1)]) dX10_gone_125 rfl (nI_1 _) (by decide) rfl ?_
        refine x_goto (pc := 128) (tgt := 42) dX10_gone_128 (by decide) ?_
        have h9 := ih (i + 1) (by omega) I2 h3 (ff9.tr (mdT.of2 f2))
        first
        | rw [fstV_keep (p := refP V (rgVal ars V)) (refP_f hm)] at h9
        | rw [fstV_new (p := refP V (rgVal ars V)) (by omega) (fstV_neg (by omega) c70) (refP_t hm)] at h9
        | rw [fstV_had (p := refP V (rgVal ars V)) (fstV_pos c70)] at h9
        first
        | rw [fstV_keep (p := cauP V (rgVal ars V)) hf] at h9
        | rw [fstV_had (p := cauP V (rgVal ars V)) (fstV_pos c115)] at h9
        | rw [fstV_new (p := cauP V (rgVal ars V)) (by omega) (fstV_neg (by omega) c115) hh] at h9
        exact X.keep [0, 1, 2, 3, 4] rfl h9
    · skip
      refine x_istore (pc := 62) (lv' := [(0, .ref M), (1, .int x), (2, .int (fstV (cauP V (rgVal ars V))  i)), (3, .int (fstV (refP V (rgVal ars V))  i)), (4, .int (nI i)), (5, .int 0)]) dX10_gone_62 (by decide) rfl ?_
      refine x_iload (pc := 64) dX10_gone_64 rfl ?_
      refine x_if_ne_f (pc := 66) (tgt := 78) dX10_gone_66 (by decide) (by decide) ?_
      refine x_iload_n (pc := 69) dX10_gone_69 rfl rfl ?_
      refine x_if_ge (pc := 70) (tgt := 78) dX10_gone_70 (by decide) (fun c70 => ?_) (fun c70 => ?_)
      · skip
        refine x_iload_n (pc := 78) dX10_gone_78 rfl rfl ?_
        refine x_istore_n (pc := 79) (lv' := [(0, .ref M), (1, .int x), (2, .int (fstV (cauP V (rgVal ars V))  i)), (3, .int (fstV (refP V (rgVal ars V))  i)), (4, .int (nI i)), (5, .int 0)]) dX10_gone_79 rfl (by decide) rfl ?_
        refine x_aload_n (pc := 80) dX10_gone_80 rfl rfl ?_
        refine x_iload (pc := 81) dX10_gone_81 rfl ?_
        refine x_if_eq_t (pc := 83) (tgt := 96) dX10_gone_83 (by decide) (by decide) ?_
        refine x_aload_n (pc := 96) dX10_gone_96 rfl rfl ?_
        refine x_get (pc := 97) dX10_gone_97 kf_RX10_92 hM.s rfl ?_
        rw [hj.2.2.2.2.2.2.2.2.2.1]
        refine x_put (pc := 100) dX10_gone_100 kf_RX10_92 hM.s rfl (Or.inl kb_10_27) ?_
        first | (have ej : up2 J M 27 (nI (V 6 i)) = up2 J M 27 (nI (gT V (gn V (rgVal ars V) i) i)) := by rw [gT_t hm]) | (have ej : up2 J M 27 (nI (gn V (rgVal ars V) i).2) = up2 J M 27 (nI (gT V (gn V (rgVal ars V) i) i)) := by rw [gT_f hm])
        have hgt : (gT V (gn V (rgVal ars V) i) i) < 36 := by first | (rw [gT_t hm]; exact vw i hi) | (rw [gT_f hm]; exact hj.2.2.2.2.2.2.2.2.2.2.1)
        have hj1 : MS sh R (up2 J M 27 (nI (gT V (gn V (rgVal ars V) i) i))) M (V 8 0) (V 0) (V 1) (gn V (rgVal ars V) i).1 (V 3) (V 4) (gT V (gn V (rgVal ars V) i) i) (V 8 2 + i) 0 (rgVal ars V) := hj.setTamer hgt
        have ff9 : mdT M I (up2 J M 27 (nI (gT V (gn V (rgVal ars V) i) i))) := ff.tr (mdT.fld (by decide))
        refine X.heap ej ?_
        refine x_aload_n (pc := 103) dX10_gone_103 rfl rfl ?_
        refine x_callV (pc := 104) (As := []) dX10_gone_104 km_X10_goTenth kv_X10_goTenth kl_RX10_344 hM.s rfl rfl (by decide) ⟨Nat.le_refl _, Nat.le_refl _⟩ rfl (Nat.le_of_ble_eq_true rfl) (Nat.le_of_ble_eq_true rfl) (m_goTenth hj1 (by omega) (fun I2 h3 f2 => ⟨rfl, rfl, ?_⟩))
        have h3 := (show MS sh R I2 M (V 8 0) (V 0) (V 1) (gn V (rgVal ars V) (i + 1)).1 (V 3) (V 4) (gn V (rgVal ars V) (i + 1)).2 (V 8 2 + (i + 1)) 0 (rgVal ars V) from h3)
        refine x_aload_n (pc := 107) dX10_gone_107 rfl rfl ?_
        refine x_callV (pc := 108) (As := []) dX10_gone_108 km_X10_caught kv_X10_caught kl_RX10_347 hM.s rfl rfl (by decide) ⟨Nat.le_refl _, Nat.le_refl _⟩ rfl (Nat.le_of_ble_eq_true rfl) (Nat.le_of_ble_eq_true rfl) (m_caught hM h3.2.2.1 v6 h3.2.2.2.2.2.1 (fun i hi => (h3.2.2.2.2.2.2.2.2.1 i hi).2.2.1) h3.2.2.2.2.2.2.2.2.2.1 h3.2.2.2.2.2.2.2.2.2.2.1 (fun k hk hkx hkm => ⟨rfl, rfl, ?_⟩) (fun hno => ⟨rfl, rfl, ?_⟩))
        · skip
          have hh : cauP V (rgVal ars V) i = true := held_t.mpr ⟨k, hk, hkx⟩
          refine x_ifn_lt (pc := 111) (a := k) dX10_gone_111 ⟨123, by decide⟩ (by omega) ?_
          refine x_iload_n (pc := 114) dX10_gone_114 rfl rfl ?_
          refine x_if_ge (pc := 115) (tgt := 123) dX10_gone_115 (by decide) (fun c115 => ?_) (fun c115 => ?_)
          · skip
            refine x_iload_n (pc := 123) dX10_gone_123 rfl rfl ?_
            refine x_istore_n (pc := 124) (lv' := [(0, .ref M), (1, .int x), (2, .int (fstV (cauP V (rgVal ars V))  i)), (3, .int (fstV (refP V (rgVal ars V))  i)), (4, .int (nI i)), (5, .int 0)]) dX10_gone_124 rfl (by decide) rfl ?_
            refine x_iinc (pc := 125) (v := nI (i + 1)) (lv' := [(0, .ref M), (1, .int x), (2, .int (fstV (cauP V (rgVal ars V))  i)), (3, .int (fstV (refP V (rgVal ars V))  i)), (4, .int (nI (i + 1))), (5, .int 0)]) dX10_gone_125 rfl (nI_1 _) (by decide) rfl ?_
            refine x_goto (pc := 128) (tgt := 42) dX10_gone_128 (by decide) ?_
            have h9 := ih (i + 1) (by omega) I2 h3 (ff9.tr (mdT.of2 f2))
            first
            | rw [fstV_keep (p := refP V (rgVal ars V)) (refP_f hm)] at h9
            | rw [fstV_new (p := refP V (rgVal ars V)) (by omega) (fstV_neg (by omega) c70) (refP_t hm)] at h9
            | rw [fstV_had (p := refP V (rgVal ars V)) (fstV_pos c70)] at h9
            first
            | rw [fstV_keep (p := cauP V (rgVal ars V)) hf] at h9
            | rw [fstV_had (p := cauP V (rgVal ars V)) (fstV_pos c115)] at h9
            | rw [fstV_new (p := cauP V (rgVal ars V)) (by omega) (fstV_neg (by omega) c115) hh] at h9
            exact X.keep [0, 1, 2, 3, 4] rfl h9
          · skip
            refine x_iload (pc := 118) dX10_gone_118 rfl ?_
            refine x_goto (pc := 120) (tgt := 124) dX10_gone_120 (by decide) ?_
            refine x_istore_n (pc := 124) (lv' := [(0, .ref M), (1, .int x), (2, .int (nI i)), (3, .int (fstV (refP V (rgVal ars V))  i)), (4, .int (nI i)), (5, .int 0)]) dX10_gone_124 rfl (by decide) rfl ?_
            refine x_iinc (pc := 125) (v := nI (i + 1)) (lv' := [(0, .ref M), (1, .int x), (2, .int (nI i)), (3, .int (fstV (refP V (rgVal ars V))  i)), (4, .int (nI (i + 1))), (5, .int 0)]) dX10_gone_125 rfl (nI_1 _) (by decide) rfl ?_
            refine x_goto (pc := 128) (tgt := 42) dX10_gone_128 (by decide) ?_
            have h9 := ih (i + 1) (by omega) I2 h3 (ff9.tr (mdT.of2 f2))
            first
            | rw [fstV_keep (p := refP V (rgVal ars V)) (refP_f hm)] at h9
            | rw [fstV_new (p := refP V (rgVal ars V)) (by omega) (fstV_neg (by omega) c70) (refP_t hm)] at h9
            | rw [fstV_had (p := refP V (rgVal ars V)) (fstV_pos c70)] at h9
            first
            | rw [fstV_keep (p := cauP V (rgVal ars V)) hf] at h9
            | rw [fstV_had (p := cauP V (rgVal ars V)) (fstV_pos c115)] at h9
            | rw [fstV_new (p := cauP V (rgVal ars V)) (by omega) (fstV_neg (by omega) c115) hh] at h9
            exact X.keep [0, 1, 2, 3, 4] rfl h9
        · skip
          have hf : cauP V (rgVal ars V) i = false := held_f hno
          refine x_if_lt_t (pc := 111) (tgt := 123) dX10_gone_111 (by decide) (by decide) ?_
          refine x_iload_n (pc := 123) dX10_gone_123 rfl rfl ?_
          refine x_istore_n (pc := 124) (lv' := [(0, .ref M), (1, .int x), (2, .int (fstV (cauP V (rgVal ars V))  i)), (3, .int (fstV (refP V (rgVal ars V))  i)), (4, .int (nI i)), (5, .int 0)]) dX10_gone_124 rfl (by decide) rfl ?_
          refine x_iinc (pc := 125) (v := nI (i + 1)) (lv' := [(0, .ref M), (1, .int x), (2, .int (fstV (cauP V (rgVal ars V))  i)), (3, .int (fstV (refP V (rgVal ars V))  i)), (4, .int (nI (i + 1))), (5, .int 0)]) dX10_gone_125 rfl (nI_1 _) (by decide) rfl ?_
          refine x_goto (pc := 128) (tgt := 42) dX10_gone_128 (by decide) ?_
          have h9 := ih (i + 1) (by omega) I2 h3 (ff9.tr (mdT.of2 f2))
          first
          | rw [fstV_keep (p := refP V (rgVal ars V)) (refP_f hm)] at h9
          | rw [fstV_new (p := refP V (rgVal ars V)) (by omega) (fstV_neg (by omega) c70) (refP_t hm)] at h9
          | rw [fstV_had (p := refP V (rgVal ars V)) (fstV_pos c70)] at h9
          first
          | rw [fstV_keep (p := cauP V (rgVal ars V)) hf] at h9
          | rw [fstV_had (p := cauP V (rgVal ars V)) (fstV_pos c115)] at h9
          | rw [fstV_new (p := cauP V (rgVal ars V)) (by omega) (fstV_neg (by omega) c115) hh] at h9
          exact X.keep [0, 1, 2, 3, 4] rfl h9
      · skip
        refine x_iload (pc := 73) dX10_gone_73 rfl ?_
        refine x_goto (pc := 75) (tgt := 79) dX10_gone_75 (by decide) ?_
        refine x_istore_n (pc := 79) (lv' := [(0, .ref M), (1, .int x), (2, .int (fstV (cauP V (rgVal ars V))  i)), (3, .int (nI i)), (4, .int (nI i)), (5, .int 0)]) dX10_gone_79 rfl (by decide) rfl ?_
        refine x_aload_n (pc := 80) dX10_gone_80 rfl rfl ?_
        refine x_iload (pc := 81) dX10_gone_81 rfl ?_
        refine x_if_eq_t (pc := 83) (tgt := 96) dX10_gone_83 (by decide) (by decide) ?_
        refine x_aload_n (pc := 96) dX10_gone_96 rfl rfl ?_
        refine x_get (pc := 97) dX10_gone_97 kf_RX10_92 hM.s rfl ?_
        rw [hj.2.2.2.2.2.2.2.2.2.1]
        refine x_put (pc := 100) dX10_gone_100 kf_RX10_92 hM.s rfl (Or.inl kb_10_27) ?_
        first | (have ej : up2 J M 27 (nI (V 6 i)) = up2 J M 27 (nI (gT V (gn V (rgVal ars V) i) i)) := by rw [gT_t hm]) | (have ej : up2 J M 27 (nI (gn V (rgVal ars V) i).2) = up2 J M 27 (nI (gT V (gn V (rgVal ars V) i) i)) := by rw [gT_f hm])
        have hgt : (gT V (gn V (rgVal ars V) i) i) < 36 := by first | (rw [gT_t hm]; exact vw i hi) | (rw [gT_f hm]; exact hj.2.2.2.2.2.2.2.2.2.2.1)
        have hj1 : MS sh R (up2 J M 27 (nI (gT V (gn V (rgVal ars V) i) i))) M (V 8 0) (V 0) (V 1) (gn V (rgVal ars V) i).1 (V 3) (V 4) (gT V (gn V (rgVal ars V) i) i) (V 8 2 + i) 0 (rgVal ars V) := hj.setTamer hgt
        have ff9 : mdT M I (up2 J M 27 (nI (gT V (gn V (rgVal ars V) i) i))) := ff.tr (mdT.fld (by decide))
        refine X.heap ej ?_
        refine x_aload_n (pc := 103) dX10_gone_103 rfl rfl ?_
        refine x_callV (pc := 104) (As := []) dX10_gone_104 km_X10_goTenth kv_X10_goTenth kl_RX10_344 hM.s rfl rfl (by decide) ⟨Nat.le_refl _, Nat.le_refl _⟩ rfl (Nat.le_of_ble_eq_true rfl) (Nat.le_of_ble_eq_true rfl) (m_goTenth hj1 (by omega) (fun I2 h3 f2 => ⟨rfl, rfl, ?_⟩))
        have h3 := (show MS sh R I2 M (V 8 0) (V 0) (V 1) (gn V (rgVal ars V) (i + 1)).1 (V 3) (V 4) (gn V (rgVal ars V) (i + 1)).2 (V 8 2 + (i + 1)) 0 (rgVal ars V) from h3)
        refine x_aload_n (pc := 107) dX10_gone_107 rfl rfl ?_
        refine x_callV (pc := 108) (As := []) dX10_gone_108 km_X10_caught kv_X10_caught kl_RX10_347 hM.s rfl rfl (by decide) ⟨Nat.le_refl _, Nat.le_refl _⟩ rfl (Nat.le_of_ble_eq_true rfl) (Nat.le_of_ble_eq_true rfl) (m_caught hM h3.2.2.1 v6 h3.2.2.2.2.2.1 (fun i hi => (h3.2.2.2.2.2.2.2.2.1 i hi).2.2.1) h3.2.2.2.2.2.2.2.2.2.1 h3.2.2.2.2.2.2.2.2.2.2.1 (fun k hk hkx hkm => ⟨rfl, rfl, ?_⟩) (fun hno => ⟨rfl, rfl, ?_⟩))
        · skip
          have hh : cauP V (rgVal ars V) i = true := held_t.mpr ⟨k, hk, hkx⟩
          refine x_ifn_lt (pc := 111) (a := k) dX10_gone_111 ⟨123, by decide⟩ (by omega) ?_
          refine x_iload_n (pc := 114) dX10_gone_114 rfl rfl ?_
          refine x_if_ge (pc := 115) (tgt := 123) dX10_gone_115 (by decide) (fun c115 => ?_) (fun c115 => ?_)
          · skip
            refine x_iload_n (pc := 123) dX10_gone_123 rfl rfl ?_
            refine x_istore_n (pc := 124) (lv' := [(0, .ref M), (1, .int x), (2, .int (fstV (cauP V (rgVal ars V))  i)), (3, .int (nI i)), (4, .int (nI i)), (5, .int 0)]) dX10_gone_124 rfl (by decide) rfl ?_
            refine x_iinc (pc := 125) (v := nI (i + 1)) (lv' := [(0, .ref M), (1, .int x), (2, .int (fstV (cauP V (rgVal ars V))  i)), (3, .int (nI i)), (4, .int (nI (i + 1))), (5, .int 0)]) dX10_gone_125 rfl (nI_1 _) (by decide) rfl ?_
            refine x_goto (pc := 128) (tgt := 42) dX10_gone_128 (by decide) ?_
            have h9 := ih (i + 1) (by omega) I2 h3 (ff9.tr (mdT.of2 f2))
            first
            | rw [fstV_keep (p := refP V (rgVal ars V)) (refP_f hm)] at h9
            | rw [fstV_new (p := refP V (rgVal ars V)) (by omega) (fstV_neg (by omega) c70) (refP_t hm)] at h9
            | rw [fstV_had (p := refP V (rgVal ars V)) (fstV_pos c70)] at h9
            first
            | rw [fstV_keep (p := cauP V (rgVal ars V)) hf] at h9
            | rw [fstV_had (p := cauP V (rgVal ars V)) (fstV_pos c115)] at h9
            | rw [fstV_new (p := cauP V (rgVal ars V)) (by omega) (fstV_neg (by omega) c115) hh] at h9
            exact X.keep [0, 1, 2, 3, 4] rfl h9
          · skip
            refine x_iload (pc := 118) dX10_gone_118 rfl ?_
            refine x_goto (pc := 120) (tgt := 124) dX10_gone_120 (by decide) ?_
            refine x_istore_n (pc := 124) (lv' := [(0, .ref M), (1, .int x), (2, .int (nI i)), (3, .int (nI i)), (4, .int (nI i)), (5, .int 0)]) dX10_gone_124 rfl (by decide) rfl ?_
            refine x_iinc (pc := 125) (v := nI (i + 1)) (lv' := [(0, .ref M), (1, .int x), (2, .int (nI i)), (3, .int (nI i)), (4, .int (nI (i + 1))), (5, .int 0)]) dX10_gone_125 rfl (nI_1 _) (by decide) rfl ?_
            refine x_goto (pc := 128) (tgt := 42) dX10_gone_128 (by decide) ?_
            have h9 := ih (i + 1) (by omega) I2 h3 (ff9.tr (mdT.of2 f2))
            first
            | rw [fstV_keep (p := refP V (rgVal ars V)) (refP_f hm)] at h9
            | rw [fstV_new (p := refP V (rgVal ars V)) (by omega) (fstV_neg (by omega) c70) (refP_t hm)] at h9
            | rw [fstV_had (p := refP V (rgVal ars V)) (fstV_pos c70)] at h9
            first
            | rw [fstV_keep (p := cauP V (rgVal ars V)) hf] at h9
            | rw [fstV_had (p := cauP V (rgVal ars V)) (fstV_pos c115)] at h9
            | rw [fstV_new (p := cauP V (rgVal ars V)) (by omega) (fstV_neg (by omega) c115) hh] at h9
            exact X.keep [0, 1, 2, 3, 4] rfl h9
        · skip
          have hf : cauP V (rgVal ars V) i = false := held_f hno
          refine x_if_lt_t (pc := 111) (tgt := 123) dX10_gone_111 (by decide) (by decide) ?_
          refine x_iload_n (pc := 123) dX10_gone_123 rfl rfl ?_
          refine x_istore_n (pc := 124) (lv' := [(0, .ref M), (1, .int x), (2, .int (fstV (cauP V (rgVal ars V))  i)), (3, .int (nI i)), (4, .int (nI i)), (5, .int 0)]) dX10_gone_124 rfl (by decide) rfl ?_
          refine x_iinc (pc := 125) (v := nI (i + 1)) (lv' := [(0, .ref M), (1, .int x), (2, .int (fstV (cauP V (rgVal ars V))  i)), (3, .int (nI i)), (4, .int (nI (i + 1))), (5, .int 0)]) dX10_gone_125 rfl (nI_1 _) (by decide) rfl ?_
          refine x_goto (pc := 128) (tgt := 42) dX10_gone_128 (by decide) ?_
          have h9 := ih (i + 1) (by omega) I2 h3 (ff9.tr (mdT.of2 f2))
          first
          | rw [fstV_keep (p := refP V (rgVal ars V)) (refP_f hm)] at h9
          | rw [fstV_new (p := refP V (rgVal ars V)) (by omega) (fstV_neg (by omega) c70) (refP_t hm)] at h9
          | rw [fstV_had (p := refP V (rgVal ars V)) (fstV_pos c70)] at h9
          first
          | rw [fstV_keep (p := cauP V (rgVal ars V)) hf] at h9
          | rw [fstV_had (p := cauP V (rgVal ars V)) (fstV_pos c115)] at h9
          | rw [fstV_new (p := cauP V (rgVal ars V)) (by omega) (fstV_neg (by omega) c115) hh] at h9
          exact X.keep [0, 1, 2, 3, 4] rfl h9

set_option maxHeartbeats 4000000 in
set_option maxRecDepth 100000 in
theorem m_gone {T : xT} {n : Nat} {sh : Nat → Nat × Nat} {I : xI} {R : xR} {L : xL} {P : xPost} {M : Nat} (hM : xModel sh R M) {V : xV} {B rc : Nat} {ars : Nat → xAR} (h : MDV I M V) (hv : VOK V B) (hB : B < 800000) (hr : mRings I M rc ars) (hV6 : V 8 6 ≤ rc) {x : Int32} (K : ∀ I2 : xI, MDV I2 M V → mdP M I I2 → P (n, sh, 0, 0) I2 R L (some (.int (spGone V (rgVal ars V) x))))  : XM T zX10_gone 6 [.ref M, .int x] n sh I R L P := by
  obtain ⟨v6, v12, v10, vb, vf, vw, vm, vta, vte, vod, vrg, vdi⟩ := id hv
  refine x_aload_n (pc := 0) dX10_gone_0 rfl rfl ?_
  refine x_iload_n (pc := 1) dX10_gone_1 rfl rfl ?_
  refine x_iconst (pc := 2) (v := 0) dX10_gone_2 (by decide) ?_
  refine x_aload_n (pc := 3) dX10_gone_3 rfl rfl ?_
  refine x_get (pc := 4) dX10_gone_4 kf_RX10_7 hM.s rfl ?_
  rw [h.1]
  refine x_iconst (pc := 7) (v := 1) dX10_gone_7 (by decide) ?_
  refine x_isub (pc := 8) dX10_gone_8 ?_
  refine x_callV (pc := 9) (As := [.int _, .int _, .int _]) dX10_gone_9 km_X10_in kv_X10_in kl_RX10_231 hM.s rfl rfl (by decide) ⟨Nat.le_refl _, Nat.le_refl _⟩ rfl (Nat.le_of_ble_eq_true rfl) (Nat.le_of_ble_eq_true rfl) (m_in hM.s (fun a1 a2 => ⟨rfl, rfl, ?_⟩) (fun a1 => ⟨rfl, rfl, ?_⟩))
  · skip
    have hx : x = 10 ∨ x = 11 ∨ x = 12 ∨ ∃ b : Nat, b < V 8 0 ∧ x = nI b := Or.inr (Or.inr (Or.inr (isb_in v6 a1 a2)))
    refine x_if_ne_t (pc := 12) (tgt := 29) dX10_gone_12 (by decide) (by decide) ?_
    refine x_aload_n (pc := 29) dX10_gone_29 rfl rfl ?_
    refine x_callV (pc := 30) (As := []) dX10_gone_30 km_X10_asIs kv_X10_asIs kl_RX10_338 hM.s rfl rfl (by decide) ⟨Nat.le_refl _, Nat.le_refl _⟩ rfl (Nat.le_of_ble_eq_true rfl) (Nat.le_of_ble_eq_true rfl) (m_asIs hM (fun I2 k1 k2 k3 k4 k5 k6 k7 => ⟨rfl, rfl, ?_⟩))
    refine x_bipush (pc := 33) (v := -5) dX10_gone_33 (by decide) ?_
    refine x_istore_n (pc := 35) (lv' := [(0, .ref M), (1, .int x), (2, .int (-5))]) dX10_gone_35 rfl (by decide) rfl ?_
    refine x_bipush (pc := 36) (v := -5) dX10_gone_36 (by decide) ?_
    refine x_istore_n (pc := 38) (lv' := [(0, .ref M), (1, .int x), (2, .int (-5)), (3, .int (-5))]) dX10_gone_38 rfl (by decide) rfl ?_
    refine x_iconst (pc := 39) (v := 0) dX10_gone_39 (by decide) ?_
    refine x_istore (pc := 40) (lv' := [(0, .ref M), (1, .int x), (2, .int (-5)), (3, .int (-5)), (4, .int 0)]) dX10_gone_40 (by decide) rfl ?_
    exact lm_gone hM hv hB (h.keepT (mdT.asIs k1 k2)) hx (fun I3 h3 f3 => K I3 h3 ((mdT.asIs k1 k2).mdP.tr f3)) (V 8 4) 0 (by omega) I2 (h.toMS hM hv hB hr hV6 k1 k2 k3 k4 k5 k6 k7) mdT.rf
  · skip
    refine x_if_ne_f (pc := 12) (tgt := 29) dX10_gone_12 (by decide) (by decide) ?_
    refine x_aload_n (pc := 15) dX10_gone_15 rfl rfl ?_
    refine x_iload_n (pc := 16) dX10_gone_16 rfl rfl ?_
    refine x_bipush (pc := 17) (v := 10) dX10_gone_17 (by decide) ?_
    refine x_bipush (pc := 19) (v := 12) dX10_gone_19 (by decide) ?_
    refine x_callV (pc := 21) (As := [.int _, .int _, .int _]) dX10_gone_21 km_X10_in kv_X10_in kl_RX10_231 hM.s rfl rfl (by decide) ⟨Nat.le_refl _, Nat.le_refl _⟩ rfl (Nat.le_of_ble_eq_true rfl) (Nat.le_of_ble_eq_true rfl) (m_in hM.s (fun b1 b2 => ⟨rfl, rfl, ?_⟩) (fun b1 => ⟨rfl, rfl, ?_⟩))
    · skip
      have hx : x = 10 ∨ x = 11 ∨ x = 12 ∨ ∃ b : Nat, b < V 8 0 ∧ x = nI b := (in_10 b1 b2).imp id (fun q => q.imp id Or.inl)
      refine x_if_ne_t (pc := 24) (tgt := 29) dX10_gone_24 (by decide) (by decide) ?_
      refine x_aload_n (pc := 29) dX10_gone_29 rfl rfl ?_
      refine x_callV (pc := 30) (As := []) dX10_gone_30 km_X10_asIs kv_X10_asIs kl_RX10_338 hM.s rfl rfl (by decide) ⟨Nat.le_refl _, Nat.le_refl _⟩ rfl (Nat.le_of_ble_eq_true rfl) (Nat.le_of_ble_eq_true rfl) (m_asIs hM (fun I2 k1 k2 k3 k4 k5 k6 k7 => ⟨rfl, rfl, ?_⟩))
      refine x_bipush (pc := 33) (v := -5) dX10_gone_33 (by decide) ?_
      refine x_istore_n (pc := 35) (lv' := [(0, .ref M), (1, .int x), (2, .int (-5))]) dX10_gone_35 rfl (by decide) rfl ?_
      refine x_bipush (pc := 36) (v := -5) dX10_gone_36 (by decide) ?_
      refine x_istore_n (pc := 38) (lv' := [(0, .ref M), (1, .int x), (2, .int (-5)), (3, .int (-5))]) dX10_gone_38 rfl (by decide) rfl ?_
      refine x_iconst (pc := 39) (v := 0) dX10_gone_39 (by decide) ?_
      refine x_istore (pc := 40) (lv' := [(0, .ref M), (1, .int x), (2, .int (-5)), (3, .int (-5)), (4, .int 0)]) dX10_gone_40 (by decide) rfl ?_
      exact lm_gone hM hv hB (h.keepT (mdT.asIs k1 k2)) hx (fun I3 h3 f3 => K I3 h3 ((mdT.asIs k1 k2).mdP.tr f3)) (V 8 4) 0 (by omega) I2 (h.toMS hM hv hB hr hV6 k1 k2 k3 k4 k5 k6 k7) mdT.rf
    · skip
      refine x_if_ne_f (pc := 24) (tgt := 29) dX10_gone_24 (by decide) (by decide) ?_
      refine x_iconst (pc := 27) (v := -1) dX10_gone_27 (by decide) ?_
      refine x_ireturn (pc := 28) dX10_gone_28 ⟨_, rfl, rfl⟩ ⟨Nat.le_refl _, Nat.le_refl _⟩ ?_
      have h9 := K I h mdP.rf
      rw [spGone_n (isb_out v6 a1) b1] at h9
      exact h9

