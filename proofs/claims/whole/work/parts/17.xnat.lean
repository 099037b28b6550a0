section XNAT
variable {T : xT} {Y : xY} {d CM SM : Nat} {P : xPost} {pc : Nat} {lv : List (Nat × Value)} {st : List Value} {g : xG} {I : xI} {R : xR} {L : xL} {a b : Nat}
theorem x_icmpn_eq {off : Int} {tgt : Nat} (hd : decode Y.2.1 pc = .ok (.if_icmp .eq off, 3)) (ht : (pc : Int) + off = (tgt : Int)) (ha : a < 2 ^ 31) (hb : b < 2 ^ 31) (K1 : a = b → X T Y d CM SM P (tgt) lv (st) g I R L) (K2 : ¬ a = b → X T Y d CM SM P (pc + 3) lv (st) g I R L) : X T Y d CM SM P (pc) lv (.int (nI b) :: .int (nI a) :: st) g I R L := by
  refine x_icmp_eq hd ht (fun c => K1 ?_) (fun c => K2 ?_)
  · exact (nI_eq ha hb).mp c
  · exact fun h => c ((nI_eq ha hb).mpr h)
theorem x_icmpn_eq_t {off : Int} {tgt : Nat} (hd : decode Y.2.1 pc = .ok (.if_icmp .eq off, 3)) (ht : (pc : Int) + off = (tgt : Int)) (ha : a < 2 ^ 31) (hb : b < 2 ^ 31) (q : a = b) (K : X T Y d CM SM P (tgt) lv (st) g I R L) : X T Y d CM SM P (pc) lv (.int (nI b) :: .int (nI a) :: st) g I R L := x_icmpn_eq hd ht ha hb (fun _ => K) (fun z => absurd q (by first | omega | simp_all))
theorem x_icmpn_eq_f {off : Int} {tgt : Nat} (hd : decode Y.2.1 pc = .ok (.if_icmp .eq off, 3)) (ht : (pc : Int) + off = (tgt : Int)) (ha : a < 2 ^ 31) (hb : b < 2 ^ 31) (q : ¬ a = b) (K : X T Y d CM SM P (pc + 3) lv (st) g I R L) : X T Y d CM SM P (pc) lv (.int (nI b) :: .int (nI a) :: st) g I R L := x_icmpn_eq hd ht ha hb (fun z => absurd q (by first | omega | simp_all)) (fun _ => K)
theorem x_icmpn_ne {off : Int} {tgt : Nat} (hd : decode Y.2.1 pc = .ok (.if_icmp .ne off, 3)) (ht : (pc : Int) + off = (tgt : Int)) (ha : a < 2 ^ 31) (hb : b < 2 ^ 31) (K1 : ¬ a = b → X T Y d CM SM P (tgt) lv (st) g I R L) (K2 : a = b → X T Y d CM SM P (pc + 3) lv (st) g I R L) : X T Y d CM SM P (pc) lv (.int (nI b) :: .int (nI a) :: st) g I R L := by
  refine x_icmp_ne hd ht (fun c => K1 ?_) (fun c => K2 ?_)
  · exact fun h => c ((nI_eq ha hb).mpr h)
  · exact (nI_eq ha hb).mp c
theorem x_icmpn_ne_t {off : Int} {tgt : Nat} (hd : decode Y.2.1 pc = .ok (.if_icmp .ne off, 3)) (ht : (pc : Int) + off = (tgt : Int)) (ha : a < 2 ^ 31) (hb : b < 2 ^ 31) (q : ¬ a = b) (K : X T Y d CM SM P (tgt) lv (st) g I R L) : X T Y d CM SM P (pc) lv (.int (nI b) :: .int (nI a) :: st) g I R L := x_icmpn_ne hd ht ha hb (fun _ => K) (fun z => absurd q (by first | omega | simp_all))
theorem x_icmpn_ne_f {off : Int} {tgt : Nat} (hd : decode Y.2.1 pc = .ok (.if_icmp .ne off, 3)) (ht : (pc : Int) + off = (tgt : Int)) (ha : a < 2 ^ 31) (hb : b < 2 ^ 31) (q : a = b) (K : X T Y d CM SM P (pc + 3) lv (st) g I R L) : X T Y d CM SM P (pc) lv (.int (nI b) :: .int (nI a) :: st) g I R L := x_icmpn_ne hd ht ha hb (fun z => absurd q (by first | omega | simp_all)) (fun _ => K)
theorem x_icmpn_lt {off : Int} {tgt : Nat} (hd : decode Y.2.1 pc = .ok (.if_icmp .lt off, 3)) (ht : (pc : Int) + off = (tgt : Int)) (ha : a < 2 ^ 31) (hb : b < 2 ^ 31) (K1 : a < b → X T Y d CM SM P (tgt) lv (st) g I R L) (K2 : b ≤ a → X T Y d CM SM P (pc + 3) lv (st) g I R L) : X T Y d CM SM P (pc) lv (.int (nI b) :: .int (nI a) :: st) g I R L := by
  refine x_icmp_lt hd ht (fun c => K1 ?_) (fun c => K2 ?_)
  · exact (nI_ltI ha hb).mp c
  · exact Nat.le_of_not_lt fun h => c ((nI_ltI ha hb).mpr h)
theorem x_icmpn_lt_t {off : Int} {tgt : Nat} (hd : decode Y.2.1 pc = .ok (.if_icmp .lt off, 3)) (ht : (pc : Int) + off = (tgt : Int)) (ha : a < 2 ^ 31) (hb : b < 2 ^ 31) (q : a < b) (K : X T Y d CM SM P (tgt) lv (st) g I R L) : X T Y d CM SM P (pc) lv (.int (nI b) :: .int (nI a) :: st) g I R L := x_icmpn_lt hd ht ha hb (fun _ => K) (fun z => absurd q (by first | omega | simp_all))
theorem x_icmpn_lt_f {off : Int} {tgt : Nat} (hd : decode Y.2.1 pc = .ok (.if_icmp .lt off, 3)) (ht : (pc : Int) + off = (tgt : Int)) (ha : a < 2 ^ 31) (hb : b < 2 ^ 31) (q : b ≤ a) (K : X T Y d CM SM P (pc + 3) lv (st) g I R L) : X T Y d CM SM P (pc) lv (.int (nI b) :: .int (nI a) :: st) g I R L := x_icmpn_lt hd ht ha hb (fun z => absurd q (by first | omega | simp_all)) (fun _ => K)
theorem x_icmpn_ge {off : Int} {tgt : Nat} (hd : decode Y.2.1 pc = .ok (.if_icmp .ge off, 3)) (ht : (pc : Int) + off = (tgt : Int)) (ha : a < 2 ^ 31) (hb : b < 2 ^ 31) (K1 : b ≤ a → X T Y d CM SM P (tgt) lv (st) g I R L) (K2 : a < b → X T Y d CM SM P (pc + 3) lv (st) g I R L) : X T Y d CM SM P (pc) lv (.int (nI b) :: .int (nI a) :: st) g I R L := by
  refine x_icmp_ge hd ht (fun c => K1 ?_) (fun c => K2 ?_)
  · exact (nI_leI hb ha).mp c
  · exact Nat.lt_of_not_le fun h => c ((nI_leI hb ha).mpr h)
theorem x_icmpn_ge_t {off : Int} {tgt : Nat} (hd : decode Y.2.1 pc = .ok (.if_icmp .ge off, 3)) (ht : (pc : Int) + off = (tgt : Int)) (ha : a < 2 ^ 31) (hb : b < 2 ^ 31) (q : b ≤ a) (K : X T Y d CM SM P (tgt) lv (st) g I R L) : X T Y d CM SM P (pc) lv (.int (nI b) :: .int (nI a) :: st) g I R L := x_icmpn_ge hd ht ha hb (fun _ => K) (fun z => absurd q (by first | omega | simp_all))
theorem x_icmpn_ge_f {off : Int} {tgt : Nat} (hd : decode Y.2.1 pc = .ok (.if_icmp .ge off, 3)) (ht : (pc : Int) + off = (tgt : Int)) (ha : a < 2 ^ 31) (hb : b < 2 ^ 31) (q : a < b) (K : X T Y d CM SM P (pc + 3) lv (st) g I R L) : X T Y d CM SM P (pc) lv (.int (nI b) :: .int (nI a) :: st) g I R L := x_icmpn_ge hd ht ha hb (fun z => absurd q (by first | omega | simp_all)) (fun _ => K)
theorem x_icmpn_gt {off : Int} {tgt : Nat} (hd : decode Y.2.1 pc = .ok (.if_icmp .gt off, 3)) (ht : (pc : Int) + off = (tgt : Int)) (ha : a < 2 ^ 31) (hb : b < 2 ^ 31) (K1 : b < a → X T Y d CM SM P (tgt) lv (st) g I R L) (K2 : a ≤ b → X T Y d CM SM P (pc + 3) lv (st) g I R L) : X T Y d CM SM P (pc) lv (.int (nI b) :: .int (nI a) :: st) g I R L := by
  refine x_icmp_gt hd ht (fun c => K1 ?_) (fun c => K2 ?_)
  · exact (nI_ltI hb ha).mp c
  · exact Nat.le_of_not_lt fun h => c ((nI_ltI hb ha).mpr h)
theorem x_icmpn_gt_t {off : Int} {tgt : Nat} (hd : decode Y.2.1 pc = .ok (.if_icmp .gt off, 3)) (ht : (pc : Int) + off = (tgt : Int)) (ha : a < 2 ^ 31) (hb : b < 2 ^ 31) (q : b < a) (K : X T Y d CM SM P (tgt) lv (st) g I R L) : X T Y d CM SM P (pc) lv (.int (nI b) :: .int (nI a) :: st) g I R L := x_icmpn_gt hd ht ha hb (fun _ => K) (fun z => absurd q (by first | omega | simp_all))
theorem x_icmpn_gt_f {off : Int} {tgt : Nat} (hd : decode Y.2.1 pc = .ok (.if_icmp .gt off, 3)) (ht : (pc : Int) + off = (tgt : Int)) (ha : a < 2 ^ 31) (hb : b < 2 ^ 31) (q : a ≤ b) (K : X T Y d CM SM P (pc + 3) lv (st) g I R L) : X T Y d CM SM P (pc) lv (.int (nI b) :: .int (nI a) :: st) g I R L := x_icmpn_gt hd ht ha hb (fun z => absurd q (by first | omega | simp_all)) (fun _ => K)
theorem x_icmpn_le {off : Int} {tgt : Nat} (hd : decode Y.2.1 pc = .ok (.if_icmp .le off, 3)) (ht : (pc : Int) + off = (tgt : Int)) (ha : a < 2 ^ 31) (hb : b < 2 ^ 31) (K1 : a ≤ b → X T Y d CM SM P (tgt) lv (st) g I R L) (K2 : b < a → X T Y d CM SM P (pc + 3) lv (st) g I R L) : X T Y d CM SM P (pc) lv (.int (nI b) :: .int (nI a) :: st) g I R L := by
  refine x_icmp_le hd ht (fun c => K1 ?_) (fun c => K2 ?_)
  · exact (nI_leI ha hb).mp c
  · exact Nat.lt_of_not_le fun h => c ((nI_leI ha hb).mpr h)
theorem x_icmpn_le_t {off : Int} {tgt : Nat} (hd : decode Y.2.1 pc = .ok (.if_icmp .le off, 3)) (ht : (pc : Int) + off = (tgt : Int)) (ha : a < 2 ^ 31) (hb : b < 2 ^ 31) (q : a ≤ b) (K : X T Y d CM SM P (tgt) lv (st) g I R L) : X T Y d CM SM P (pc) lv (.int (nI b) :: .int (nI a) :: st) g I R L := x_icmpn_le hd ht ha hb (fun _ => K) (fun z => absurd q (by first | omega | simp_all))
theorem x_icmpn_le_f {off : Int} {tgt : Nat} (hd : decode Y.2.1 pc = .ok (.if_icmp .le off, 3)) (ht : (pc : Int) + off = (tgt : Int)) (ha : a < 2 ^ 31) (hb : b < 2 ^ 31) (q : b < a) (K : X T Y d CM SM P (pc + 3) lv (st) g I R L) : X T Y d CM SM P (pc) lv (.int (nI b) :: .int (nI a) :: st) g I R L := x_icmpn_le hd ht ha hb (fun z => absurd q (by first | omega | simp_all)) (fun _ => K)
theorem x_ifn_eq {off : Int} {tgt : Nat} (hd : decode Y.2.1 pc = .ok (.ifCond .eq off, 3)) (ht : (pc : Int) + off = (tgt : Int)) (ha : a < 2 ^ 31) (K1 : a = 0 → X T Y d CM SM P (tgt) lv (st) g I R L) (K2 : ¬ a = 0 → X T Y d CM SM P (pc + 3) lv (st) g I R L) : X T Y d CM SM P (pc) lv (.int (nI a) :: st) g I R L := by
  refine x_if_eq hd ht (fun c => K1 ?_) (fun c => K2 ?_)
  · exact (nI_eq ha (by decide)).mp (c.trans nI_0.symm)
  · exact fun h => c (by rw [h]; exact nI_0)
theorem x_ifn_ne {off : Int} {tgt : Nat} (hd : decode Y.2.1 pc = .ok (.ifCond .ne off, 3)) (ht : (pc : Int) + off = (tgt : Int)) (ha : a < 2 ^ 31) (K1 : ¬ a = 0 → X T Y d CM SM P (tgt) lv (st) g I R L) (K2 : a = 0 → X T Y d CM SM P (pc + 3) lv (st) g I R L) : X T Y d CM SM P (pc) lv (.int (nI a) :: st) g I R L := by
  refine x_if_ne hd ht (fun c => K1 ?_) (fun c => K2 ?_)
  · exact fun h => c (by rw [h]; exact nI_0)
  · exact (nI_eq ha (by decide)).mp (c.trans nI_0.symm)
theorem x_ifn_gt {off : Int} {tgt : Nat} (hd : decode Y.2.1 pc = .ok (.ifCond .gt off, 3)) (ht : (pc : Int) + off = (tgt : Int)) (ha : a < 2 ^ 31) (K1 : 0 < a → X T Y d CM SM P (tgt) lv (st) g I R L) (K2 : a = 0 → X T Y d CM SM P (pc + 3) lv (st) g I R L) : X T Y d CM SM P (pc) lv (.int (nI a) :: st) g I R L := by
  refine x_if_gt hd ht (fun c => K1 ?_) (fun c => K2 ?_)
  · exact (nI_ltI (by decide) ha).mp (by rw [nI_0]; exact c)
  · exact Nat.eq_zero_of_not_pos fun h => c (by have := (nI_ltI (a := 0) (by decide) ha).mpr h; rw [nI_0] at this; exact this)
theorem x_ifn_le {off : Int} {tgt : Nat} (hd : decode Y.2.1 pc = .ok (.ifCond .le off, 3)) (ht : (pc : Int) + off = (tgt : Int)) (ha : a < 2 ^ 31) (K1 : a = 0 → X T Y d CM SM P (tgt) lv (st) g I R L) (K2 : 0 < a → X T Y d CM SM P (pc + 3) lv (st) g I R L) : X T Y d CM SM P (pc) lv (.int (nI a) :: st) g I R L := by
  refine x_if_le hd ht (fun c => K1 ?_) (fun c => K2 ?_)
  · exact Nat.le_zero.mp ((nI_leI ha (by decide)).mp (by rw [nI_0]; exact c))
  · exact Nat.pos_of_ne_zero fun h => c (by rw [h, nI_0]; exact Int32.le_refl 0)
theorem x_ifn_lt {off : Int} (hd : decode Y.2.1 pc = .ok (.ifCond .lt off, 3)) (ht : ∃ tgt : Nat, (pc : Int) + off = (tgt : Int)) (ha : a < 2 ^ 31) (K : X T Y d CM SM P (pc + 3) lv (st) g I R L) : X T Y d CM SM P (pc) lv (.int (nI a) :: st) g I R L := by
  obtain ⟨tgt, ht⟩ := ht
  exact x_if_lt hd ht (fun c => absurd c (nI_pos ha)) (fun _ => K)
theorem x_ifn_ge {off : Int} {tgt : Nat} (hd : decode Y.2.1 pc = .ok (.ifCond .ge off, 3)) (ht : (pc : Int) + off = (tgt : Int)) (ha : a < 2 ^ 31) (K : X T Y d CM SM P (tgt) lv (st) g I R L) : X T Y d CM SM P (pc) lv (.int (nI a) :: st) g I R L := x_if_ge hd ht (fun _ => K) (fun c => absurd (nI_pos' ha) c)
theorem x_iaddn (hd : decode Y.2.1 pc = .ok (.iadd, 1)) (K : X T Y d CM SM P (pc + 1) lv (.int (nI (a + b)) :: st) g I R L) : X T Y d CM SM P (pc) lv (.int (nI b) :: .int (nI a) :: st) g I R L := x_iadd hd (by rw [nI_add]; exact K)
theorem x_imuln (hd : decode Y.2.1 pc = .ok (.imul, 1)) (K : X T Y d CM SM P (pc + 1) lv (.int (nI (a * b)) :: st) g I R L) : X T Y d CM SM P (pc) lv (.int (nI b) :: .int (nI a) :: st) g I R L := x_imul hd (by rw [pk_mul]; exact K)
theorem x_isubn (hd : decode Y.2.1 pc = .ok (.isub, 1)) (h : b ≤ a) (K : X T Y d CM SM P (pc + 1) lv (.int (nI (a - b)) :: st) g I R L) : X T Y d CM SM P (pc) lv (.int (nI b) :: .int (nI a) :: st) g I R L := x_isub hd (by rw [pk_sub h]; exact K)
theorem x_idivn (hd : decode Y.2.1 pc = .ok (.idiv, 1)) (ha : a < 2 ^ 31) (h0 : 0 < b) (hb : b < 2 ^ 31) (K : X T Y d CM SM P (pc + 1) lv (.int (nI (a / b)) :: st) g I R L) : X T Y d CM SM P (pc) lv (.int (nI b) :: .int (nI a) :: st) g I R L := x_idiv hd (nI_ne0 h0 hb) (by rw [pk_div ha h0 hb]; exact K)
theorem x_iremn (hd : decode Y.2.1 pc = .ok (.irem, 1)) (ha : a < 2 ^ 31) (h0 : 0 < b) (hb : b < 2 ^ 31) (K : X T Y d CM SM P (pc + 1) lv (.int (nI (a % b)) :: st) g I R L) : X T Y d CM SM P (pc) lv (.int (nI b) :: .int (nI a) :: st) g I R L := x_irem hd (nI_ne0 h0 hb) (by rw [pk_rem ha h0 hb]; exact K)
theorem x_ialdn {q len : Nat} (hd : decode Y.2.1 pc = .ok (.iaload, 1)) (hs : g.2.1 q = (1, len)) (hi : a < len) (hl : len < 2 ^ 31) (K : X T Y d CM SM P (pc + 1) lv (.int (I q a) :: st) g I R L) : X T Y d CM SM P (pc) lv (.int (nI a) :: .ref q :: st) g I R L := x_iald hd hs (vp_in_nI hi hl) (by rw [nI_clamp (Nat.lt_trans hi hl)]; exact K)
theorem x_zaldn {q len : Nat} (hd : decode Y.2.1 pc = .ok (.baload, 1)) (hs : g.2.1 q = (2, len)) (hi : a < len) (hl : len < 2 ^ 31) (K : X T Y d CM SM P (pc + 1) lv (.int (I q a) :: st) g I R L) : X T Y d CM SM P (pc) lv (.int (nI a) :: .ref q :: st) g I R L := x_zald hd hs (vp_in_nI hi hl) (by rw [nI_clamp (Nat.lt_trans hi hl)]; exact K)
theorem x_laldn {q len : Nat} (hd : decode Y.2.1 pc = .ok (.laload, 1)) (hs : g.2.1 q = (3, len)) (hi : a < len) (hl : len < 2 ^ 31) (K : X T Y d CM SM P (pc + 1) lv (.long (L q a) :: st) g I R L) : X T Y d CM SM P (pc) lv (.int (nI a) :: .ref q :: st) g I R L := x_lald hd hs (vp_in_nI hi hl) (by rw [nI_clamp (Nat.lt_trans hi hl)]; exact K)
theorem x_iastn {q len : Nat} {x : Int32} (hd : decode Y.2.1 pc = .ok (.iastore, 1)) (hs : g.2.1 q = (1, len)) (hi : a < len) (hl : len < 2 ^ 31) (K : X T Y d CM SM P (pc + 1) lv st g (up2 I q a x) R L) : X T Y d CM SM P (pc) lv (.int x :: .int (nI a) :: .ref q :: st) g I R L := x_iast hd hs (vp_in_nI hi hl) (by rw [nI_clamp (Nat.lt_trans hi hl)]; exact K)
theorem x_zastn {q len : Nat} {x : Int32} (hd : decode Y.2.1 pc = .ok (.bastore, 1)) (hs : g.2.1 q = (2, len)) (hi : a < len) (hl : len < 2 ^ 31) (hv : x = 0 ∨ x = 1) (K : X T Y d CM SM P (pc + 1) lv st g (up2 I q a x) R L) : X T Y d CM SM P (pc) lv (.int x :: .int (nI a) :: .ref q :: st) g I R L := x_zast hd hs (vp_in_nI hi hl) hv (by rw [nI_clamp (Nat.lt_trans hi hl)]; exact K)
theorem x_lastn {q len : Nat} {x : Int64} (hd : decode Y.2.1 pc = .ok (.lastore, 1)) (hs : g.2.1 q = (3, len)) (hi : a < len) (hl : len < 2 ^ 31) (K : X T Y d CM SM P (pc + 1) lv st g I R (up2 L q a x)) : X T Y d CM SM P (pc) lv (.long x :: .int (nI a) :: .ref q :: st) g I R L := x_last hd hs (vp_in_nI hi hl) (by rw [nI_clamp (Nat.lt_trans hi hl)]; exact K)
theorem x_aaldn {q t len v : Nat} (hd : decode Y.2.1 pc = .ok (.aaload, 1)) (hs : g.2.1 q = (t, len)) (ht : t = 4 ∨ t = 5) (hi : a < len) (hl : len < 2 ^ 31) (hv : R q a = some v) (K : X T Y d CM SM P (pc + 1) lv (.ref v :: st) g I R L) : X T Y d CM SM P (pc) lv (.int (nI a) :: .ref q :: st) g I R L := x_aald hd hs ht (vp_in_nI hi hl) (by rw [nI_clamp (Nat.lt_trans hi hl)]; exact hv) K
theorem xvi {P : xPost} {g : xG} {I : xI} {R : xR} {L : xL} {a b : Int32} (K : P g I R L (some (.int a))) (h : a = b) : P g I R L (some (.int b)) := h ▸ K
theorem xvl {P : xPost} {g : xG} {I : xI} {R : xR} {L : xL} {a b : Int64} (K : P g I R L (some (.long a))) (h : a = b) : P g I R L (some (.long b)) := h ▸ K
theorem xvI {P : xPost} {g : xG} {I I' : xI} {R : xR} {L : xL} {v : Option Value} (K : P g I R L v) (h : I = I') : P g I' R L v := h ▸ K
theorem vp_in_lt {i : Int32} {len : Nat} (h0 : ¬ i < 0) (h1 : ¬ nI len ≤ i) (hl : len < 2 ^ 31) : vp_in i len := by
  obtain ⟨j, hj, rfl⟩ := nI_of h0
  exact vp_in_nI (Nat.lt_of_not_le fun h => h1 ((nI_leI hl hj).mpr h)) hl
end XNAT
theorem nI_nem {a : Nat} (h : a < 2 ^ 31) : ¬ nI a = -1 := fun q => by
  have h1 := nI_pos h
  rw [q] at h1
  exact h1 (by decide)
section XKEEP
variable {T : xT} {Y : xY} {d CM SM : Nat} {P : xPost} {pc : Nat} {lv lv' : List (Nat × Value)} {st : List Value} {g : xG} {I : xI} {R : xR} {L : xL}
theorem X.keep (ks : List Nat) (he : lv.filter (fun q => ks.contains q.1) = lv') (h : X T Y d CM SM P pc lv' st g I R L) : X T Y d CM SM P pc lv st g I R L := by
  subst he
  exact X.locals (fun q hq => (List.mem_filter.mp hq).1) h
theorem X.heap {I' : xI} (he : I = I') (h : X T Y d CM SM P pc lv st g I' R L) : X T Y d CM SM P pc lv st g I R L := by
  subst he
  exact h
end XKEEP
