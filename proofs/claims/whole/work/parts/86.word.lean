/-! ===== the reader: words ===== -/
section STRC
variable {T : xT} {Y Z : xY} {d d' CM SM : Nat} {P : xPost} {pc : Nat} {lv : List (Nat × Value)} {st stk As : List Value} {g : xG} {I : xI} {R : xR} {L : xL} {n idx : Nat}
theorem x_callStr {i : Nat} (hi : i < 3) (hd : decode Y.2.1 pc = .ok (.invokevirtual idx, 3)) (hz : xMth Z n) (hv : xVir Z) (hl0 : Cond.methodLink Y.1.cls idx Z.1 ∈ wsL_law) (hcl : "java/lang/String" = Z.1.cls) (hk : stk = As.reverse ++ .ref (1000001 + i) :: st) (hdd : d' + 1 ≤ d) (hc : g.2.2.1 ≤ CM ∧ g.2.2.2 ≤ SM) (hn : As.length = n) (hfit : (lg_sl (.ref (1000001 + i) :: As)).length ≤ Z.2.2.1) (hsum : (st.map fun v => v.category).sum ≤ 8)
    (K : XM T Z d' (.ref (1000001 + i) :: As) g.1 g.2.1 I R L (xthen T Y d CM SM P (pc + 3) lv st g)) : X T Y d CM SM P pc lv stk g I R L := by
  subst hk
  intro p l e Rm s m args below meth c Q dC dI dA ad adV A H locs ls C hl hr hx
  obtain ⟨c1, c2, c3, c4, c5, c6, c7, c8, c9, c10, c11, c12⟩ := id C
  refine xthen_run (st := st) (a := (Value.ref (ad (1000001 + i)) :: As.map (cV ad)).toArray) C hl hr hx ?_
  have hrc := vk_recv c8.2.2.2.1 hi hr.2.2.1
  rw [hcl] at hrc
  exact va_runV (As := As.map (cV ad)) (b := ad (1000001 + i)) (rest := st.map (cV ad)) (C := Z.1.cls) (n := n) ⟨c1, c2, c9, c3, c4⟩ (xMet hz.2.2.2.1 hfit K l dC dI dA ad adV A) ⟨callB_of n c4 (xGoodIn hz) rfl rfl rfl (c4 _ hz.2.1) (c4 _ hl0) hz.2.2.1 (xroom C hz hdd 0 0), c4 _ hv.1, c4 _ hv.2⟩ ⟨xPc_blind, hrc, fun U hU hW => xPc_of C hr U hU hW⟩ rfl (by rw [List.length_map]; exact hn) hl.1 xrev (lv_room (xsum hsum)) hd ⟨Nat.le_trans hc.1 c7.2.2.1, Nat.le_trans hc.2 c7.2.2.2⟩
end STRC
def wdL (i : Nat) : List Nat := [[108, 111, 117, 100, 32], [99, 111, 109, 101, 32], [121, 105, 101, 108, 100, 32]].getD i []
def wdC (i k : Nat) : Nat := (wdL i).getD k 0
def wlen (i : Nat) : Nat := xlen.getD i 0
theorem wlen_lt : ∀ i, i < 3 → wlen i < 7 := by decide
theorem wd_b : ∀ i, i < 3 → ∀ k, k < 6 → (k < wlen i → (xbyt.getD i []).getD k 0 = nI (wdC i k)) := by decide +kernel
theorem wd_c : ∀ i, i < 3 → ∀ k, k < 6 → ((nI (wdC i k) &&& 255).toUInt32 % 65536).toInt32 = nI (wdC i k) := by decide +kernel
theorem wd_n : ∀ i, i < 3 → ∀ k, k < 6 → (narrow .char (.int (nI (wdC i k))) = .int (nI (wdC i k))) := by decide +kernel
theorem wd_lt : ∀ i, i < 3 → ∀ k, k < 6 → wdC i k < 128 := by decide
theorem wlen_s : ∀ i, i < 3 → nI (wlen i) >>> ((0 : Int32) &&& 31) = nI (wlen i) := by decide +kernel

set_option maxHeartbeats 4000000 in
set_option maxRecDepth 100000 in
theorem c_sCoder {T : xT} {n : Nat} {sh : Nat → Nat × Nat} {I : xI} {R : xR} {L : xL} {P : xPost} {i : Nat} (hi : i < 3) (K : P (n, sh, 0, 0) I R L (some (.int (0)))) : XM T zJ0_coder_7d493 0 [.ref (1000001 + i)] n sh I R L P := by
  refine x_compact kf_RJ0_38 dJ0_coder_7d493_0 ?_
  refine x_if_eq_f (pc := 3) (tgt := 13) dJ0_coder_7d493_3 (by decide) (by decide) ?_
  refine x_aload_n (pc := 6) dJ0_coder_7d493_6 rfl rfl ?_
  refine x_strCoder (pc := 7) hi kf_RJ0_15 dJ0_coder_7d493_7 ?_
  refine x_goto (pc := 10) (tgt := 14) dJ0_coder_7d493_10 (by decide) ?_
  exact x_ireturn (pc := 14) dJ0_coder_7d493_14 ⟨_, rfl, by decide⟩ ⟨Nat.le_refl _, Nat.le_refl _⟩ K

set_option maxHeartbeats 4000000 in
set_option maxRecDepth 100000 in
theorem c_sLat {T : xT} {n : Nat} {sh : Nat → Nat × Nat} {I : xI} {R : xR} {L : xL} {P : xPost} {i : Nat} (hi : i < 3) (K : P (n, sh, 0, 0) I R L (some (.int (1)))) : XM T zJ0_isLatin1_aae02 0 [.ref (1000001 + i)] n sh I R L P := by
  refine x_compact kf_RJ0_38 dJ0_isLatin1_aae02_0 ?_
  refine x_if_eq_f (pc := 3) (tgt := 17) dJ0_isLatin1_aae02_3 (by decide) (by decide) ?_
  refine x_aload_n (pc := 6) dJ0_isLatin1_aae02_6 rfl rfl ?_
  refine x_strCoder (pc := 7) hi kf_RJ0_15 dJ0_isLatin1_aae02_7 ?_
  refine x_if_ne_f (pc := 10) (tgt := 17) dJ0_isLatin1_aae02_10 (by decide) (by decide) ?_
  refine x_iconst (pc := 13) (v := 1) dJ0_isLatin1_aae02_13 (by decide) ?_
  refine x_goto (pc := 14) (tgt := 18) dJ0_isLatin1_aae02_14 (by decide) ?_
  exact x_ireturn (pc := 18) dJ0_isLatin1_aae02_18 ⟨_, rfl, by decide⟩ ⟨Nat.le_refl _, Nat.le_refl _⟩ K

set_option maxHeartbeats 4000000 in
set_option maxRecDepth 100000 in
theorem c_sLen {T : xT} {n : Nat} {sh : Nat → Nat × Nat} {I : xI} {R : xR} {L : xL} {P : xPost} {i : Nat} (hi : i < 3) (K : P (n, sh, 0, 0) I R L (some (.int (nI (wlen i))))) : XM T zJ0_length_8abf5 1 [.ref (1000001 + i)] n sh I R L P := by
  refine x_aload_n (pc := 0) dJ0_length_8abf5_0 rfl rfl ?_
  refine x_strValue (pc := 1) hi kf_RJ0_9 dJ0_length_8abf5_1 ?_
  refine x_strLen (pc := 4) (v := nI (wlen i)) hi rfl dJ0_length_8abf5_4 ?_
  refine x_aload_n (pc := 5) dJ0_length_8abf5_5 rfl rfl ?_
  refine x_callStr (pc := 6) (As := []) hi dJ0_length_8abf5_6 km_J0_coder_7d493 kv_J0_coder_7d493 kl_RJ0_335 rfl rfl (by decide) ⟨Nat.le_refl _, Nat.le_refl _⟩ rfl (Nat.le_of_ble_eq_true rfl) (Nat.le_of_ble_eq_true rfl) (c_sCoder hi (⟨rfl, rfl, ?_⟩))
  refine x_ishr (pc := 9) dJ0_length_8abf5_9 ?_
  refine x_ireturn (pc := 10) dJ0_length_8abf5_10 ⟨_, rfl, rfl⟩ ⟨Nat.le_refl _, Nat.le_refl _⟩ ?_
  exact xvi K (wlen_s i hi).symm

set_option maxHeartbeats 4000000 in
set_option maxRecDepth 100000 in
theorem c_chk3N {T : xT} {n : Nat} {sh : Nat → Nat × Nat} {I : xI} {R : xR} {L : xL} {P : xPost} {k m : Nat} (hk : k < m) (hm : m < 100) (K : P (n, sh, 0, 0) I R L (some (.int (nI k)))) : XM T zJ3_checkIndex_8e157 0 [.int (nI k), .int (nI m), .null] n sh I R L P := by
  refine x_iload_n (pc := 0) dJ3_checkIndex_8e157_0 rfl rfl ?_
  refine x_ifn_lt (pc := 1) (a := k) dJ3_checkIndex_8e157_1 ⟨9, by decide⟩ (by omega) ?_
  refine x_iload_n (pc := 4) dJ3_checkIndex_8e157_4 rfl rfl ?_
  refine x_iload_n (pc := 5) dJ3_checkIndex_8e157_5 rfl rfl ?_
  refine x_icmpn_lt_t (pc := 6) (tgt := 16) (a := k) (b := m) dJ3_checkIndex_8e157_6 (by decide) (by omega) (by omega) hk ?_
  refine x_iload_n (pc := 16) dJ3_checkIndex_8e157_16 rfl rfl ?_
  exact x_ireturn (pc := 17) dJ3_checkIndex_8e157_17 ⟨_, rfl, rfl⟩ ⟨Nat.le_refl _, Nat.le_refl _⟩ K

set_option maxHeartbeats 4000000 in
set_option maxRecDepth 100000 in
theorem c_chk3R {T : xT} {n : Nat} {sh : Nat → Nat × Nat} {I : xI} {R : xR} {L : xL} {P : xPost} {k m : Nat} (hk : k < m) (hm : m < 100) (K : P (n, sh, 0, 0) I R L (some (.int (nI k)))) : XM T zJ3_checkIndex_8e157 0 [.int (nI k), .int (nI m), .ref 1000020] n sh I R L P := by
  refine x_iload_n (pc := 0) dJ3_checkIndex_8e157_0 rfl rfl ?_
  refine x_ifn_lt (pc := 1) (a := k) dJ3_checkIndex_8e157_1 ⟨9, by decide⟩ (by omega) ?_
  refine x_iload_n (pc := 4) dJ3_checkIndex_8e157_4 rfl rfl ?_
  refine x_iload_n (pc := 5) dJ3_checkIndex_8e157_5 rfl rfl ?_
  refine x_icmpn_lt_t (pc := 6) (tgt := 16) (a := k) (b := m) dJ3_checkIndex_8e157_6 (by decide) (by omega) (by omega) hk ?_
  refine x_iload_n (pc := 16) dJ3_checkIndex_8e157_16 rfl rfl ?_
  exact x_ireturn (pc := 17) dJ3_checkIndex_8e157_17 ⟨_, rfl, rfl⟩ ⟨Nat.le_refl _, Nat.le_refl _⟩ K

set_option maxHeartbeats 4000000 in
set_option maxRecDepth 100000 in
theorem c_chk0 {T : xT} {n : Nat} {sh : Nat → Nat × Nat} {I : xI} {R : xR} {L : xL} {P : xPost} {k m : Nat} (hk : k < m) (hm : m < 100) (K : P (n, sh, 0, 0) I R L none) : XM T zJ0_checkIndex_df160 1 [.int (nI k), .int (nI m)] n sh I R L P := by
  refine x_iload_n (pc := 0) dJ0_checkIndex_df160_0 rfl rfl ?_
  refine x_iload_n (pc := 1) dJ0_checkIndex_df160_1 rfl rfl ?_
  refine x_sioobe (pc := 2) kf_RJ0_1053 dJ0_checkIndex_df160_2 ?_ ?_
  · skip
    refine x_callS (pc := 5) (As := [.int _, .int _, .null]) dJ0_checkIndex_df160_5 km_J3_checkIndex_8e157 ks_J3_checkIndex_8e157 kl_RJ0_1059 rfl (by decide) ⟨Nat.le_refl _, Nat.le_refl _⟩ rfl (Nat.le_of_ble_eq_true rfl) (Nat.le_of_ble_eq_true rfl) (c_chk3N hk hm (⟨rfl, rfl, ?_⟩))
    refine x_pop (pc := 8) dJ0_checkIndex_df160_8 rfl ?_
    exact x_return (pc := 9) dJ0_checkIndex_df160_9 rfl ⟨Nat.le_refl _, Nat.le_refl _⟩ K
  · skip
    refine x_callS (pc := 5) (As := [.int _, .int _, .ref 1000020]) dJ0_checkIndex_df160_5 km_J3_checkIndex_8e157 ks_J3_checkIndex_8e157 kl_RJ0_1059 rfl (by decide) ⟨Nat.le_refl _, Nat.le_refl _⟩ rfl (Nat.le_of_ble_eq_true rfl) (Nat.le_of_ble_eq_true rfl) (c_chk3R hk hm (⟨rfl, rfl, ?_⟩))
    refine x_pop (pc := 8) dJ0_checkIndex_df160_8 rfl ?_
    exact x_return (pc := 9) dJ0_checkIndex_df160_9 rfl ⟨Nat.le_refl _, Nat.le_refl _⟩ K

set_option maxHeartbeats 4000000 in
set_option maxRecDepth 100000 in
theorem c_sAt1 {T : xT} {n : Nat} {sh : Nat → Nat × Nat} {I : xI} {R : xR} {L : xL} {P : xPost} {i k : Nat} (hi : i < 3) (hk : k < wlen i) (K : P (n, sh, 0, 0) I R L (some (.int (nI (wdC i k))))) : XM T zJ1_charAt_3b067 2 [.ref (1000011 + i), .int (nI k)] n sh I R L P := by
  have h7 := wlen_lt i hi
  refine x_iload_n (pc := 0) dJ1_charAt_3b067_0 rfl rfl ?_
  refine x_aload_n (pc := 1) dJ1_charAt_3b067_1 rfl rfl ?_
  refine x_strLen (pc := 2) (v := nI (wlen i)) hi rfl dJ1_charAt_3b067_2 ?_
  refine x_callS (pc := 3) (As := [.int _, .int _]) dJ1_charAt_3b067_3 km_J0_checkIndex_df160 ks_J0_checkIndex_df160 kl_RJ1_9 rfl (by decide) ⟨Nat.le_refl _, Nat.le_refl _⟩ rfl (Nat.le_of_ble_eq_true rfl) (Nat.le_of_ble_eq_true rfl) (c_chk0 hk (by omega) (⟨rfl, rfl, ?_⟩))
  refine x_aload_n (pc := 6) dJ1_charAt_3b067_6 rfl rfl ?_
  refine x_iload_n (pc := 7) dJ1_charAt_3b067_7 rfl rfl ?_
  refine x_strByte (pc := 8) (k := nI k) (v := nI (wdC i k)) hi (vp_in_nI hk (show wlen i < 2 ^ 31 by omega)) (by rw [nI_clamp (by omega)]; exact wd_b i hi k (by omega) hk) dJ1_charAt_3b067_8 ?_
  refine x_sipush (pc := 9) (v := 255) dJ1_charAt_3b067_9 (by decide) ?_
  refine x_iand (pc := 12) dJ1_charAt_3b067_12 ?_
  refine x_i2c (pc := 13) dJ1_charAt_3b067_13 ?_
  rw [wd_c i hi k (by omega)]
  exact x_ireturn (pc := 14) dJ1_charAt_3b067_14 ⟨_, rfl, wd_n i hi k (by omega)⟩ ⟨Nat.le_refl _, Nat.le_refl _⟩ K

set_option maxHeartbeats 4000000 in
set_option maxRecDepth 100000 in
theorem c_sAt {T : xT} {n : Nat} {sh : Nat → Nat × Nat} {I : xI} {R : xR} {L : xL} {P : xPost} {i k : Nat} (hi : i < 3) (hk : k < wlen i) (K : P (n, sh, 0, 0) I R L (some (.int (nI (wdC i k))))) : XM T zJ0_charAt_5068e 3 [.ref (1000001 + i), .int (nI k)] n sh I R L P := by
  have h7 := wlen_lt i hi
  refine x_aload_n (pc := 0) dJ0_charAt_5068e_0 rfl rfl ?_
  refine x_callStr (pc := 1) (As := []) hi dJ0_charAt_5068e_1 km_J0_isLatin1_aae02 kv_J0_isLatin1_aae02 kl_RJ0_492 rfl rfl (by decide) ⟨Nat.le_refl _, Nat.le_refl _⟩ rfl (Nat.le_of_ble_eq_true rfl) (Nat.le_of_ble_eq_true rfl) (c_sLat hi (⟨rfl, rfl, ?_⟩))
  refine x_if_eq_f (pc := 4) (tgt := 16) dJ0_charAt_5068e_4 (by decide) (by decide) ?_
  refine x_aload_n (pc := 7) dJ0_charAt_5068e_7 rfl rfl ?_
  refine x_strValue (pc := 8) hi kf_RJ0_9 dJ0_charAt_5068e_8 ?_
  refine x_iload_n (pc := 11) dJ0_charAt_5068e_11 rfl rfl ?_
  refine x_callS (pc := 12) (As := [.ref _, .int _]) dJ0_charAt_5068e_12 km_J1_charAt_3b067 ks_J1_charAt_3b067 kl_RJ0_495 rfl (by decide) ⟨Nat.le_refl _, Nat.le_refl _⟩ rfl (Nat.le_of_ble_eq_true rfl) (Nat.le_of_ble_eq_true rfl) (c_sAt1 hi hk (⟨rfl, rfl, ?_⟩))
  exact x_ireturn (pc := 15) dJ0_charAt_5068e_15 ⟨_, rfl, wd_n i hi k (by omega)⟩ ⟨Nat.le_refl _, Nat.le_refl _⟩ K

/-- a word read: where it stops, and if it is there -/
def wdI (nx : Nat → Nat) (p i : Nat) : Nat → Nat → Nat × Bool
  | 0, k => (p + k, true)
  | w + 1, k => if nx (p + k) = wdC i k then wdI nx p i w (k + 1) else (p + k, false)
def wdF (nx : Nat → Nat) (p i : Nat) : Nat × Bool := wdI nx p i (wlen i) 0

set_option maxHeartbeats 4000000 in
set_option maxRecDepth 100000 in
theorem l_word {T : xT} {n : Nat} {sh : Nat → Nat × Nat} {I : xI} {R : xR} {L : xL} {P : xPost} {lr nw im tr rd hu se ac M : Nat} (hG : GEO sh R lr nw im tr rd hu se ac M) {t : xX} (hx : XOK t) {p i : Nat} {l : List (Nat × Nat × Nat)} (hi : i < 3) (K : ∀ J : xI, RDS J rd t (wdF (nxX t) p i).1 l → rdP rd I J → P (n, sh, 0, 0) J R L (some (.int (if (wdF (nxX t) p i).2 = true then 1 else 0)))) : ∀ (w k : Nat), k + w = wlen i → ∀ J : xI, RDS J rd t (p + k) l → wdI (nxX t) p i w k = wdF (nxX t) p i → rdP rd I J → X T zX3_readWord 4 0 0 P 2 [(0, .ref rd), (1, .ref (1000001 + i)), (2, .int (nI k))] [] (n, sh, 0, 0) J R L := by
  have h7 := wlen_lt i hi
  intro w
  induction w with
  | zero =>
    intro k hw J hs he fj
    have e0 : wdF (nxX t) p i = (p + k, true) := he.symm
    rw [e0] at K
    refine x_iload_n (pc := 2) dX3_readWord_2 rfl rfl ?_
    refine x_aload_n (pc := 3) dX3_readWord_3 rfl rfl ?_
    refine x_callStr (pc := 4) (As := []) hi dX3_readWord_4 km_J0_length_8abf5 kv_J0_length_8abf5 kl_RX3_79 rfl rfl (by decide) ⟨Nat.le_refl _, Nat.le_refl _⟩ rfl (Nat.le_of_ble_eq_true rfl) (Nat.le_of_ble_eq_true rfl) (c_sLen hi (⟨rfl, rfl, ?_⟩))
    refine x_icmpn_ge_t (pc := 7) (tgt := 30) (a := k) (b := wlen i) dX3_readWord_7 (by decide) (by omega) (by omega) (by omega) ?_
    refine x_iconst (pc := 30) (v := 1) dX3_readWord_30 (by decide) ?_
    exact x_ireturn (pc := 31) dX3_readWord_31 ⟨_, rfl, by decide⟩ ⟨Nat.le_refl _, Nat.le_refl _⟩ (K J hs fj)
  | succ w ih =>
    intro k hw J hs he fj
    have hk : k < wlen i := by omega
    have he' : (if nxX t (p + k) = wdC i k then wdI (nxX t) p i w (k + 1) else (p + k, false)) = wdF (nxX t) p i := he
    refine x_iload_n (pc := 2) dX3_readWord_2 rfl rfl ?_
    refine x_aload_n (pc := 3) dX3_readWord_3 rfl rfl ?_
    refine x_callStr (pc := 4) (As := []) hi dX3_readWord_4 km_J0_length_8abf5 kv_J0_length_8abf5 kl_RX3_79 rfl rfl (by decide) ⟨Nat.le_refl _, Nat.le_refl _⟩ rfl (Nat.le_of_ble_eq_true rfl) (Nat.le_of_ble_eq_true rfl) (c_sLen hi (⟨rfl, rfl, ?_⟩))
    refine x_icmpn_ge_f (pc := 7) (tgt := 30) (a := k) (b := wlen i) dX3_readWord_7 (by decide) (by omega) (by omega) (by omega) ?_
    refine x_aload_n (pc := 10) dX3_readWord_10 rfl rfl ?_
    refine x_aload_n (pc := 11) dX3_readWord_11 rfl rfl ?_
    refine x_iload_n (pc := 12) dX3_readWord_12 rfl rfl ?_
    refine x_callStr (pc := 13) (As := [.int _]) hi dX3_readWord_13 km_J0_charAt_5068e kv_J0_charAt_5068e kl_RX3_84 rfl rfl (by decide) ⟨Nat.le_refl _, Nat.le_refl _⟩ rfl (Nat.le_of_ble_eq_true rfl) (Nat.le_of_ble_eq_true rfl) (c_sAt hi hk (⟨rfl, rfl, ?_⟩))
    have hcl := wd_lt i hi k (by omega)
    refine x_callV (pc := 16) (As := [.int _]) dX3_readWord_16 km_X3_accept kv_X3_accept kl_RX3_34 hG.g_rd rfl rfl (by decide) ⟨Nat.le_refl _, Nat.le_refl _⟩ rfl (Nat.le_of_ble_eq_true rfl) (Nat.le_of_ble_eq_true rfl) (c_accept (c := wdC i k) hG hs.1 hx hs.2.1 hs.2.2.1 (by omega) (fun hc hlt => ⟨rfl, rfl, ?_⟩) (fun hc => ⟨rfl, rfl, ?_⟩))
    · refine x_if_ne_t (pc := 19) (tgt := 24) dX3_readWord_19 (by decide) (by decide) ?_
      refine x_iinc (pc := 24) (v := nI (k + 1)) (lv' := [(0, .ref rd), (1, .ref (1000001 + i)), (2, .int (nI (k + 1)))]) dX3_readWord_24 rfl (nI_1 _) (by decide) rfl ?_
      refine x_goto (pc := 27) (tgt := 2) dX3_readWord_27 (by decide) ?_
      rw [if_pos hc] at he'
      exact ih (k + 1) (by omega) _ (hs.nx hlt) he' (fj.tr rdP.nx)
    · refine x_if_ne_f (pc := 19) (tgt := 24) dX3_readWord_19 (by decide) (by decide) ?_
      rw [if_neg hc] at he'
      rw [← he'] at K
      refine x_iconst (pc := 22) (v := 0) dX3_readWord_22 (by decide) ?_
      exact x_ireturn (pc := 23) dX3_readWord_23 ⟨_, rfl, by decide⟩ ⟨Nat.le_refl _, Nat.le_refl _⟩ (K J hs fj)

set_option maxHeartbeats 4000000 in
set_option maxRecDepth 100000 in
theorem c_readWord {T : xT} {n : Nat} {sh : Nat → Nat × Nat} {I : xI} {R : xR} {L : xL} {P : xPost} {lr nw im tr rd hu se ac M : Nat} (hG : GEO sh R lr nw im tr rd hu se ac M) {t : xX} (hx : XOK t) {p i : Nat} {l : List (Nat × Nat × Nat)} (hi : i < 3) (hs : RDS I rd t p l) (K : ∀ J : xI, RDS J rd t (wdF (nxX t) p i).1 l → rdP rd I J → P (n, sh, 0, 0) J R L (some (.int (if (wdF (nxX t) p i).2 = true then 1 else 0)))) : XM T zX3_readWord 4 [.ref rd, .ref (1000001 + i)] n sh I R L P := by
  refine x_iconst (pc := 0) (v := 0) dX3_readWord_0 (by decide) ?_
  refine x_istore_n (pc := 1) (lv' := [(0, .ref rd), (1, .ref (1000001 + i)), (2, .int 0)]) dX3_readWord_1 rfl (by decide) rfl ?_
  exact l_word hG hx hi K (wlen i) 0 (by omega) I hs rfl rdP.rf

