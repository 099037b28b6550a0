/-! ===== constructors ===== -/
/-- from n on all is fresh -/
def FRS (n : Nat) (I : xI) (R : xR) (L : xL) : Prop := n < 1000 ∧ (∀ a k, n ≤ a → I a k = 0) ∧ (∀ a k, n ≤ a → R a k = none) ∧ (∀ a k, n ≤ a → L a k = 0) ∧ xRok n R
theorem FRS.to {n n' : Nat} {I : xI} {R : xR} {L : xL} (h : FRS n I R L) (h1 : n ≤ n') (h2 : n' < 1000) : FRS n' I R L := ⟨h2, fun a k q => h.2.1 a k (by omega), fun a k q => h.2.2.1 a k (by omega), fun a k q => h.2.2.2.1 a k (by omega), fun a k r q => by have := h.2.2.2.2 a k r q; omega⟩
theorem FRS.next {n : Nat} {I : xI} {R : xR} {L : xL} (h : FRS n I R L) (h2 : n + 1 < 1000) : FRS (n + 1) I R L := h.to (by omega) h2
theorem FRS.pI {n a k : Nat} {x : Int32} {I : xI} {R : xR} {L : xL} (h : FRS n I R L) (ha : a < n) : FRS n (up2 I a k x) R L := ⟨h.1, fun b j q => (congrFun (up2_row (by omega)) j).trans (h.2.1 b j q), h.2.2⟩
theorem FRS.pR {n a k : Nat} {o : Option Nat} {I : xI} {R : xR} {L : xL} (h : FRS n I R L) (ha : a < n) (ho : ∀ q, o = some q → q < n) : FRS n I (up2 R a k o) L := ⟨h.1, h.2.1, fun b j q => (congrFun (up2_row (by omega)) j).trans (h.2.2.1 b j q), h.2.2.2.1, fun b j r q => by
  by_cases z : b = a ∧ j = k
  · obtain ⟨rfl, rfl⟩ := z
    rw [up2_s] at q
    exact ho r q
  · have e : up2 R a k o b j = R b j := if_neg z
    rw [e] at q
    exact h.2.2.2.2 b j r q⟩
theorem FRS.pS {n a k v : Nat} {I : xI} {R : xR} {L : xL} (h : FRS n I R L) (ha : a < n) (hv : v < n) : FRS n I (up2 R a k (some v)) L := h.pR ha (fun q e => by cases e; exact hv)
/-- all below r is as it was -/
def OLD (r : Nat) (sh sh' : Nat → Nat × Nat) (I J : xI) (R S : xR) : Prop := ∀ a, a < r → sh' a = sh a ∧ J a = I a ∧ S a = R a
/-- what holds of the cells from lo up to hi, whatever becomes of the rest -/
def RNG (lo hi : Nat) (Q : (Nat → Nat × Nat) → xI → xR → Prop) (sh : Nat → Nat × Nat) (I : xI) (R : xR) : Prop := ∀ (sh' : Nat → Nat × Nat) (I' : xI) (R' : xR), (∀ a, lo ≤ a → a < hi → sh' a = sh a ∧ I' a = I a ∧ R' a = R a) → Q sh' I' R'
section RNGS
variable {lo hi r c : Nat} {Q : (Nat → Nat × Nat) → xI → xR → Prop} {sh sh1 sh2 : Nat → Nat × Nat} {I J J2 : xI} {R S S2 : xR} {o : Option Nat} {k : Nat} {x : Int32}
theorem RNG.get (h : RNG lo hi Q sh I R) : Q sh I R := h sh I R (fun _ _ _ => ⟨rfl, rfl, rfl⟩)
theorem RNG.keep (h : RNG lo hi Q sh I R) (k : ∀ a, lo ≤ a → a < hi → sh1 a = sh a ∧ J a = I a ∧ S a = R a) : RNG lo hi Q sh1 J S := fun sh' I' R' g => h sh' I' R' (fun a p q => by
  obtain ⟨a1, a2, a3⟩ := g a p q
  obtain ⟨b1, b2, b3⟩ := k a p q
  exact ⟨a1.trans b1, a2.trans b2, a3.trans b3⟩)
theorem RNG.nw (h : RNG lo hi Q sh I R) (b : ∀ a, a ≠ c → sh1 a = sh a) (hc : hi ≤ c) : RNG lo hi Q sh1 I R := h.keep (fun a _ q => ⟨b a (by omega), rfl, rfl⟩)
theorem RNG.ch (h : RNG lo hi Q sh I R) (o : OLD c sh sh1 I J R S) (hc : hi ≤ c) : RNG lo hi Q sh1 J S := h.keep (fun a _ q => o a (by omega))
theorem RNG.pI (h : RNG lo hi Q sh I R) (hc : c < lo) : RNG lo hi Q sh (up2 I c k x) R := h.keep (fun a p q => ⟨rfl, up2_row (by omega), rfl⟩)
theorem RNG.pR (h : RNG lo hi Q sh I R) (hc : c < lo) : RNG lo hi Q sh I (up2 R c k o) := h.keep (fun a p q => ⟨rfl, rfl, up2_row (by omega)⟩)
theorem OLD.rf : OLD r sh sh I I R R := fun _ _ => ⟨rfl, rfl, rfl⟩
theorem OLD.nw (h : OLD r sh sh1 I J R S) (b : ∀ a, a ≠ c → sh2 a = sh1 a) (hc : r ≤ c) : OLD r sh sh2 I J R S := fun a q => ⟨(b a (by omega)).trans (h a q).1, (h a q).2⟩
theorem OLD.ch (h : OLD r sh sh1 I J R S) (o : OLD c sh1 sh2 J J2 S S2) (hc : r ≤ c) : OLD r sh sh2 I J2 R S2 := fun a q => ⟨(o a (by omega)).1.trans (h a q).1, (o a (by omega)).2.1.trans (h a q).2.1, (o a (by omega)).2.2.trans (h a q).2.2⟩
theorem OLD.pI (h : OLD r sh sh1 I J R S) (hc : r ≤ c) : OLD r sh sh1 I (up2 J c k x) R S := fun a q => ⟨(h a q).1, (up2_row (by omega)).trans (h a q).2.1, (h a q).2.2⟩
theorem OLD.pR (h : OLD r sh sh1 I J R S) (hc : r ≤ c) : OLD r sh sh1 I J R (up2 S c k o) := fun a q => ⟨(h a q).1, (h a q).2.1, (up2_row (by omega)).trans (h a q).2.2⟩
end RNGS
def QRW (r room : Nat) : (Nat → Nat × Nat) → xI → xR → Prop := fun sh I R => xRow sh R r (r + 1) room ∧ I r 1 = 0
section XNK
variable {T : xT} {Y Z : xY} {d d' CM SM : Nat} {P : xPost} {pc : Nat} {lv : List (Nat × Value)} {st stk As : List Value} {n ca sa n1 ca1 sa1 : Nat} {sh : Nat → Nat × Nat} {I : xI} {R : xR} {L : xL} {idx : Nat}
theorem x_newK {ci : Nat} (hd : decode Y.2.1 pc = .ok (.new idx, 3)) (hw : xCls Y.1.cls idx ci) (F : FRS n I R L) (h1 : ∀ v ∈ st, xvok n v) (h2 : ∀ v ∈ lv.map (fun q => q.2), xvok n v) (e1 : n1 = n + 1) (e2 : ca1 = ca + 1) (e3 : sa1 = sa + xN ci) (hc : ca1 ≤ CM) (hs : sa1 ≤ SM)
    (K : ∀ sh' : Nat → Nat × Nat, sh' n = (0, ci) → (∀ a, a ≠ n → sh' a = sh a) → X T Y d CM SM P (pc + 3) lv (.ref n :: st) (n1, sh', ca1, sa1) I R L) : X T Y d CM SM P pc lv st (n, sh, ca, sa) I R L := by
  subst e1
  subst e2
  subst e3
  exact x_new hd hw ⟨by have := F.1; omega, h1, fun q hq => h2 q.2 (List.mem_map.mpr ⟨q, hq, rfl⟩)⟩ F.2.2.2.2 (fun k => F.2.1 n k (Nat.le_refl _)) (fun k => F.2.2.1 n k (Nat.le_refl _)) hc hs (K _ (va_up_self _ _ _) (fun a q => va_up_ne _ _ q))
theorem x_newarrK {at0 : ArrayType} {t len : Nat} {v : Int32} (hd : decode Y.2.1 pc = .ok (.newarray at0, 2)) (hat : xprim t at0) (hw : Cond.arrayClass (newarray.typeOf at0) ∈ wsL_law) (hv : v = Int32.ofNat len) (hlen : len < 2 ^ 20) (F : FRS n I R L) (h1 : ∀ v ∈ st, xvok n v) (h2 : ∀ v ∈ lv.map (fun q => q.2), xvok n v) (e1 : n1 = n + 1) (e2 : ca1 = ca + 1) (e3 : sa1 = sa + len) (hc : ca1 ≤ CM) (hs : sa1 ≤ SM)
    (K : ∀ sh' : Nat → Nat × Nat, sh' n = (t, len) → (∀ a, a ≠ n → sh' a = sh a) → X T Y d CM SM P (pc + 2) lv (.ref n :: st) (n1, sh', ca1, sa1) I R L) : X T Y d CM SM P pc lv (.int v :: st) (n, sh, ca, sa) I R L := by
  subst e1
  subst e2
  subst e3
  exact x_newarr hd hat hw hv hlen ⟨by have := F.1; omega, h1, fun q hq => h2 q.2 (List.mem_map.mpr ⟨q, hq, rfl⟩)⟩ F.2.2.2.2 (fun k => F.2.1 n k (Nat.le_refl _)) (fun k => F.2.2.2.1 n k (Nat.le_refl _)) hc hs (K _ (va_up_self _ _ _) (fun a q => va_up_ne _ _ q))
theorem x_anewK {t len : Nat} {v : Int32} {Cn : String} (hd : decode Y.2.1 pc = .ok (.anewarray idx, 3)) (hat : (t = 4 ∧ Cn = "LionRing$Ring") ∨ (t = 5 ∧ Cn = "LionRing$Tape")) (hw : Cond.classLink Y.1.cls idx Cn ∈ wsL_law) (hv : v = Int32.ofNat len) (hlen : len < 2 ^ 20) (F : FRS n I R L) (h1 : ∀ v ∈ st, xvok n v) (h2 : ∀ v ∈ lv.map (fun q => q.2), xvok n v) (e1 : n1 = n + 1) (e2 : ca1 = ca + 1) (e3 : sa1 = sa + len) (hc : ca1 ≤ CM) (hs : sa1 ≤ SM)
    (K : ∀ sh' : Nat → Nat × Nat, sh' n = (t, len) → (∀ a, a ≠ n → sh' a = sh a) → X T Y d CM SM P (pc + 3) lv (.ref n :: st) (n1, sh', ca1, sa1) I R L) : X T Y d CM SM P pc lv (.int v :: st) (n, sh, ca, sa) I R L := by
  subst e1
  subst e2
  subst e3
  exact x_anew hd hat hw hv hlen ⟨by have := F.1; omega, h1, fun q hq => h2 q.2 (List.mem_map.mpr ⟨q, hq, rfl⟩)⟩ F.2.2.2.2 (fun k => F.2.2.1 n k (Nat.le_refl _)) hc hs (K _ (va_up_self _ _ _) (fun a q => va_up_ne _ _ q))
end XNK
theorem xvr_ok {n a : Nat} (h : a < n) : xvok n (.ref a) := Or.inl h
theorem xvs_ok {n : Nat} : xvok n (.ref 1000000) := Or.inr (Nat.le_refl _)
theorem mx0 {a : Nat} (h : a < 2 ^ 31) : (if (0 : Int32) < nI a then nI a else 0) = nI a := by
  by_cases z : a = 0
  · subst z
    rfl
  · rw [if_pos]
    rw [Int32.lt_iff_toInt_lt, nI_toInt h]
    show (0 : Int) < a
    omega

set_option maxHeartbeats 4000000 in
set_option maxRecDepth 100000 in
theorem i_row {T : xT} {n n2 : Nat} {sh : Nat → Nat × Nat} {I : xI} {R : xR} {L : xL} {P : xPost} {r : Nat} (hn : n = r + 1) (F : FRS n I R L) (h9 : n2 < 1000) (h2 : n2 = r + 2) (hs : sh r = (0, 5)) {room : Nat} (hl : room < 1000000) (K : ∀ (sh2 : Nat → Nat × Nat) (J : xI) (S : xR), RNG r (r + 2) (QRW r room) sh2 J S → OLD r sh sh2 I J R S → FRS n2 J S L → P (n2, sh2, 1, room) J S L none) : X T zX5_init 2 1 room P 0 [(0, .ref r), (1, .int (nI room))] [] (n, sh, 0, 0) I R L := by
  subst hn
  subst h2
  refine x_aload_n (pc := 0) dX5_init_0 rfl rfl ?_
  refine x_objInit (pc := 1) (by decide) kl_RX5_3 kw_obj.1 kw_obj.2 dX5_init_1 (Nat.le_of_ble_eq_true rfl) ?_
  refine x_aload_n (pc := 4) dX5_init_4 rfl rfl ?_
  refine x_iconst (pc := 5) (v := 0) dX5_init_5 (by decide) ?_
  refine x_put (pc := 6) dX5_init_6 kf_RX5_9 hs rfl (Or.inl kb_5_1) ?_
  refine x_aload_n (pc := 9) dX5_init_9 rfl rfl ?_
  refine x_iconst (pc := 10) (v := 0) dX5_init_10 (by decide) ?_
  refine x_iload_n (pc := 11) dX5_init_11 rfl rfl ?_
  refine x_max (pc := 12) (by decide) ⟨Nat.zero_le _, Nat.zero_le _⟩ kw_max kl_RX5_15 dX5_init_12 (Nat.le_of_ble_eq_true rfl) ?_
  rw [mx0 (by omega)]
  have F0 : FRS (r + 1) (up2 I r 1 0) R L := F.pI (by omega)
  refine x_newarrK (pc := 15) (t := 1) (len := room) (ca1 := 1) (sa1 := room) (n1 := (r + 2)) dX5_init_15 (Or.inl ⟨rfl, rfl⟩) kr_int rfl (by omega) F0 (List.forall_mem_cons.mpr ⟨xvr_ok (by omega), fun _ h => absurd h List.not_mem_nil⟩) (List.forall_mem_cons.mpr ⟨xvr_ok (by omega), List.forall_mem_cons.mpr ⟨trivial, fun _ h => absurd h List.not_mem_nil⟩⟩) rfl rfl (Nat.zero_add _).symm (by decide) (Nat.le_refl _) (fun sh1 a1 b1 => ?_)
  have u1_0 := (b1 _ (by omega)).trans hs
  have F1 := F0.next (by omega)
  refine x_putrF (pc := 17) dX5_init_17 kf_RX5_21 rfl rfl u1_0 rfl ?_
  refine x_return (pc := 20) dX5_init_20 rfl ⟨Nat.le_refl _, Nat.le_refl _⟩ ?_
  refine K sh1 _ _ (fun sh3 I3 R3 g => ?_) (fun a q => ⟨b1 a (by omega), up2_row (by omega), up2_row (by omega)⟩) (F1.pS (by omega) (by omega))
  obtain ⟨g1, g2, g3⟩ := g r (Nat.le_refl _) (by omega)
  exact ⟨⟨g1.trans u1_0, by rw [g3]; exact up2_s, (g (r + 1) (by omega) (by omega)).1.trans a1, by omega⟩, by rw [g2]; exact up2_s⟩

set_option maxHeartbeats 4000000 in
set_option maxRecDepth 100000 in
theorem i_look {T : xT} {n : Nat} {sh : Nat → Nat × Nat} {I : xI} {R : xR} {L : xL} {P : xPost} {r : Nat} (K : P (n, sh, 0, 0) I R L none) : X T zX2_init 1 0 0 P 0 [(0, .ref r)] [] (n, sh, 0, 0) I R L := by
  refine x_aload_n (pc := 0) dX2_init_0 rfl rfl ?_
  refine x_objInit (pc := 1) (by decide) kl_RX2_1 kw_obj.1 kw_obj.2 dX2_init_1 (Nat.le_of_ble_eq_true rfl) ?_
  refine x_return (pc := 4) dX2_init_4 rfl ⟨Nat.le_of_ble_eq_true rfl, Nat.le_of_ble_eq_true rfl⟩ ?_
  exact K

