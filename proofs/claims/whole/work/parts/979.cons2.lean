/-! ===== constructors: scenes, rings, what is else ===== -/
def V0 : xV := fun j i => if j = 8 ∧ i = 1 then 35 else 0
def QSC (b : Nat) : (Nat → Nat × Nat) → xI → xR → Prop := fun sh I R => xScene sh R b ∧ FSC I b V0 ∧ R b 11 = none
def QRG (c : Nat) : (Nat → Nat × Nat) → xI → xR → Prop := fun sh _ R => xRing sh R c
def QTP (c : Nat) : (Nat → Nat × Nat) → xI → xR → Prop := fun sh I R => sh c = (0, 8) ∧ R c 0 = some (c + 1) ∧ sh (c + 1) = (3, 60) ∧ I c 1 = -1 ∧ I c 2 = 0
def QRD (c : Nat) : (Nat → Nat × Nat) → xI → xR → Prop := fun sh I R => sh c = (0, 3) ∧ R c 0 = some (c + 1) ∧ R c 1 = some (c + 3) ∧ xRow sh R (c + 1) (c + 2) 100 ∧ xRing sh R (c + 3) ∧ I (c + 1) 1 = 0
def QHU (c : Nat) : (Nat → Nat × Nat) → xI → xR → Prop := fun sh _ R => sh c = (0, 1) ∧ R c 0 = some (c + 1) ∧ sh (c + 1) = (3, 781) ∧ R c 1 = some (c + 2) ∧ R c 2 = some (c + 4) ∧ xRow sh R (c + 2) (c + 3) 781 ∧ xRow sh R (c + 4) (c + 5) 781
def QSE (c : Nat) : (Nat → Nat × Nat) → xI → xR → Prop := fun sh _ R => sh c = (0, 7) ∧ R c 0 = some (c + 1) ∧ R c 1 = some (c + 3) ∧ R c 2 = some (c + 5) ∧ xRow sh R (c + 1) (c + 2) 6 ∧ xRow sh R (c + 3) (c + 4) 6 ∧ xRow sh R (c + 5) (c + 6) 6
def QAC (c : Nat) : (Nat → Nat × Nat) → xI → xR → Prop := fun sh I R => sh c = (0, 0) ∧ R c 0 = some (c + 1) ∧ xRow sh R (c + 1) (c + 2) 20 ∧ I c 1 = 0 ∧ I (c + 1) 1 = 0

set_option maxHeartbeats 4000000 in
set_option maxRecDepth 100000 in
theorem i_scene {T : xT} {n n2 : Nat} {sh : Nat → Nat × Nat} {I : xI} {R : xR} {L : xL} {P : xPost} {r : Nat} (hn : n = r + 1) (F : FRS n I R L) (h9 : n2 < 1000) (h2 : n2 = r + 18) (hs : sh r = (0, 6)) (K : ∀ (sh2 : Nat → Nat × Nat) (J : xI) (S : xR), RNG r (r + 18) (QSC r) sh2 J S → OLD r sh sh2 I J R S → FRS n2 J S L → P (n2, sh2, 17, 81) J S L none) : X T zX6_init 4 17 81 P 0 [(0, .ref r)] [] (n, sh, 0, 0) I R L := by
  subst hn
  subst h2
  have Q0 : OLD r sh sh I I R R := OLD.rf
  refine x_aload_n (pc := 0) dX6_init_0 rfl rfl ?_
  refine x_objInit (pc := 1) (by decide) kl_RX6_3 kw_obj.1 kw_obj.2 dX6_init_1 (Nat.le_of_ble_eq_true rfl) ?_
  refine x_aload_n (pc := 4) dX6_init_4 rfl rfl ?_
  refine x_newK (pc := 5) (ca1 := 1) (sa1 := 2) (n1 := (r + 2)) dX6_init_5 kc_RX6_9 F (List.forall_mem_cons.mpr ⟨xvr_ok (by omega), fun _ h => absurd h List.not_mem_nil⟩) (List.forall_mem_cons.mpr ⟨xvr_ok (by omega), fun _ h => absurd h List.not_mem_nil⟩) rfl rfl rfl (by decide) (by decide) (fun sh1 a1 b1 => ?_)
  have u1_0 := (b1 _ (by omega)).trans hs
  have F1 := F.next (by omega)
  have Q2 := Q0.nw b1 (by omega)
  refine x_dup (pc := 8) dX6_init_8 rfl ?_
  refine x_bipush (pc := 9) (v := 6) dX6_init_9 (by decide) ?_
  refine x_callI (pc := 11) (ci := 0) (As := [.int _]) (mc := 1) (ms := 6) (r := (r + 1)) dX6_init_11 km_X5_init ki_X5_init rfl rfl kl_RX6_11 rfl (by decide) ⟨Nat.le_of_ble_eq_true rfl, Nat.le_of_ble_eq_true rfl⟩ rfl (Nat.le_of_ble_eq_true rfl) (Nat.le_of_ble_eq_true rfl) ⟨by omega, (List.forall_mem_cons.mpr ⟨xvr_ok (by omega), List.forall_mem_cons.mpr ⟨xvr_ok (by omega), fun _ h => absurd h List.not_mem_nil⟩⟩), (List.forall_mem_cons.mpr ⟨xvr_ok (by omega), fun _ h => absurd h List.not_mem_nil⟩)⟩ (i_row (r := (r + 1)) (n2 := (r + 3)) rfl F1 (by omega) rfl a1 (room := 6) (by decide) (fun sh3 J3 S3 h3 o3 F3 => ⟨rfl, ?_⟩))
  show X T zX6_init 4 17 81 P 14 [(0, .ref r)] [.ref (r + 1), .ref r] ((r + 3), sh3, 2, 8) J3 S3 L
  have Q4 := Q2.ch o3 (by omega)
  have u5 := (o3 r (by omega)).1.trans u1_0
  refine x_putrF (pc := 14) dX6_init_14 kf_RX6_14 rfl rfl u5 rfl ?_
  have F6 : FRS (r + 3) J3 (up2 S3 r 0 (some (r + 1))) L := F3.pS (by omega) (by omega)
  have Q7 : OLD r sh sh3 I J3 R (up2 S3 r 0 (some (r + 1))) := Q4.pR (Nat.le_refl _)
  have h8 := h3.pR (c := r) (k := 0) (o := (some (r + 1))) (by omega)
  have g9 : (up2 S3 r 0 (some (r + 1))) r 0 = (some (r + 1)) := up2_s
  refine x_aload_n (pc := 17) dX6_init_17 rfl rfl ?_
  refine x_newK (pc := 18) (ca1 := 3) (sa1 := 10) (n1 := (r + 4)) dX6_init_18 kc_RX6_9 F6 (List.forall_mem_cons.mpr ⟨xvr_ok (by omega), fun _ h => absurd h List.not_mem_nil⟩) (List.forall_mem_cons.mpr ⟨xvr_ok (by omega), fun _ h => absurd h List.not_mem_nil⟩) rfl rfl rfl (by decide) (by decide) (fun sh10 a10 b10 => ?_)
  have u10_0 := (b10 _ (by omega)).trans u5
  have F10 := F6.next (by omega)
  have Q11 := Q7.nw b10 (by omega)
  have h12 := h8.nw b10 (by omega)
  refine x_dup (pc := 21) dX6_init_21 rfl ?_
  refine x_bipush (pc := 22) (v := 6) dX6_init_22 (by decide) ?_
  refine x_callI (pc := 24) (ci := 0) (As := [.int _]) (mc := 1) (ms := 6) (r := (r + 3)) dX6_init_24 km_X5_init ki_X5_init rfl rfl kl_RX6_11 rfl (by decide) ⟨Nat.le_of_ble_eq_true rfl, Nat.le_of_ble_eq_true rfl⟩ rfl (Nat.le_of_ble_eq_true rfl) (Nat.le_of_ble_eq_true rfl) ⟨by omega, (List.forall_mem_cons.mpr ⟨xvr_ok (by omega), List.forall_mem_cons.mpr ⟨xvr_ok (by omega), fun _ h => absurd h List.not_mem_nil⟩⟩), (List.forall_mem_cons.mpr ⟨xvr_ok (by omega), fun _ h => absurd h List.not_mem_nil⟩)⟩ (i_row (r := (r + 3)) (n2 := (r + 5)) rfl F10 (by omega) rfl a10 (room := 6) (by decide) (fun sh13 J13 S13 h13 o13 F13 => ⟨rfl, ?_⟩))
  show X T zX6_init 4 17 81 P 27 [(0, .ref r)] [.ref (r + 3), .ref r] ((r + 5), sh13, 4, 16) J13 S13 L
  have Q14 := Q11.ch o13 (by omega)
  have h15 := h12.ch o13 (by omega)
  have u16 := (o13 r (by omega)).1.trans u10_0
  have g17 := (congrFun (o13 r (by omega)).2.2 0).trans g9
  refine x_putrF (pc := 27) dX6_init_27 kf_RX6_20 rfl rfl u16 rfl ?_
  have F18 : FRS (r + 5) J13 (up2 S13 r 1 (some (r + 3))) L := F13.pS (by omega) (by omega)
  have Q19 : OLD r sh sh13 I J13 R (up2 S13 r 1 (some (r + 3))) := Q14.pR (Nat.le_refl _)
  have h20 := h15.pR (c := r) (k := 1) (o := (some (r + 3))) (by omega)
  have h21 := h13.pR (c := r) (k := 1) (o := (some (r + 3))) (by omega)
  have g22 : (up2 S13 r 1 (some (r + 3))) r 0 = (some (r + 1)) := (up2_k (by decide)).trans g17
  have g23 : (up2 S13 r 1 (some (r + 3))) r 1 = (some (r + 3)) := up2_s
  refine x_aload_n (pc := 30) dX6_init_30 rfl rfl ?_
  refine x_newK (pc := 31) (ca1 := 5) (sa1 := 18) (n1 := (r + 6)) dX6_init_31 kc_RX6_9 F18 (List.forall_mem_cons.mpr ⟨xvr_ok (by omega), fun _ h => absurd h List.not_mem_nil⟩) (List.forall_mem_cons.mpr ⟨xvr_ok (by omega), fun _ h => absurd h List.not_mem_nil⟩) rfl rfl rfl (by decide) (by decide) (fun sh24 a24 b24 => ?_)
  have u24_0 := (b24 _ (by omega)).trans u16
  have F24 := F18.next (by omega)
  have Q25 := Q19.nw b24 (by omega)
  have h26 := h20.nw b24 (by omega)
  have h27 := h21.nw b24 (by omega)
  refine x_dup (pc := 34) dX6_init_34 rfl ?_
  refine x_bipush (pc := 35) (v := 6) dX6_init_35 (by decide) ?_
  refine x_callI (pc := 37) (ci := 0) (As := [.int _]) (mc := 1) (ms := 6) (r := (r + 5)) dX6_init_37 km_X5_init ki_X5_init rfl rfl kl_RX6_11 rfl (by decide) ⟨Nat.le_of_ble_eq_true rfl, Nat.le_of_ble_eq_true rfl⟩ rfl (Nat.le_of_ble_eq_true rfl) (Nat.le_of_ble_eq_true rfl) ⟨by omega, (List.forall_mem_cons.mpr ⟨xvr_ok (by omega), List.forall_mem_cons.mpr ⟨xvr_ok (by omega), fun _ h => absurd h List.not_mem_nil⟩⟩), (List.forall_mem_cons.mpr ⟨xvr_ok (by omega), fun _ h => absurd h List.not_mem_nil⟩)⟩ (i_row (r := (r + 5)) (n2 := (r + 7)) rfl F24 (by omega) rfl a24 (room := 6) (by decide) (fun sh28 J28 S28 h28 o28 F28 => ⟨rfl, ?_⟩))
  show X T zX6_init 4 17 81 P 40 [(0, .ref r)] [.ref (r + 5), .ref r] ((r + 7), sh28, 6, 24) J28 S28 L
  have Q29 := Q25.ch o28 (by omega)
  have h30 := h26.ch o28 (by omega)
  have h31 := h27.ch o28 (by omega)
  have u32 := (o28 r (by omega)).1.trans u24_0
  have g33 := (congrFun (o28 r (by omega)).2.2 0).trans g22
  have g34 := (congrFun (o28 r (by omega)).2.2 1).trans g23
  refine x_putrF (pc := 40) dX6_init_40 kf_RX6_23 rfl rfl u32 rfl ?_
  have F35 : FRS (r + 7) J28 (up2 S28 r 2 (some (r + 5))) L := F28.pS (by omega) (by omega)
  have Q36 : OLD r sh sh28 I J28 R (up2 S28 r 2 (some (r + 5))) := Q29.pR (Nat.le_refl _)
  have h37 := h30.pR (c := r) (k := 2) (o := (some (r + 5))) (by omega)
  have h38 := h31.pR (c := r) (k := 2) (o := (some (r + 5))) (by omega)
  have h39 := h28.pR (c := r) (k := 2) (o := (some (r + 5))) (by omega)
  have g40 : (up2 S28 r 2 (some (r + 5))) r 0 = (some (r + 1)) := (up2_k (by decide)).trans g33
  have g41 : (up2 S28 r 2 (some (r + 5))) r 1 = (some (r + 3)) := (up2_k (by decide)).trans g34
  have g42 : (up2 S28 r 2 (some (r + 5))) r 2 = (some (r + 5)) := up2_s
  refine x_aload_n (pc := 43) dX6_init_43 rfl rfl ?_
  refine x_newK (pc := 44) (ca1 := 7) (sa1 := 26) (n1 := (r + 8)) dX6_init_44 kc_RX6_9 F35 (List.forall_mem_cons.mpr ⟨xvr_ok (by omega), fun _ h => absurd h List.not_mem_nil⟩) (List.forall_mem_cons.mpr ⟨xvr_ok (by omega), fun _ h => absurd h List.not_mem_nil⟩) rfl rfl rfl (by decide) (by decide) (fun sh43 a43 b43 => ?_)
  have u43_0 := (b43 _ (by omega)).trans u32
  have F43 := F35.next (by omega)
  have Q44 := Q36.nw b43 (by omega)
  have h45 := h37.nw b43 (by omega)
  have h46 := h38.nw b43 (by omega)
  have h47 := h39.nw b43 (by omega)
  refine x_dup (pc := 47) dX6_init_47 rfl ?_
  refine x_bipush (pc := 48) (v := 6) dX6_init_48 (by decide) ?_
  refine x_callI (pc := 50) (ci := 0) (As := [.int _]) (mc := 1) (ms := 6) (r := (r + 7)) dX6_init_50 km_X5_init ki_X5_init rfl rfl kl_RX6_11 rfl (by decide) ⟨Nat.le_of_ble_eq_true rfl, Nat.le_of_ble_eq_true rfl⟩ rfl (Nat.le_of_ble_eq_true rfl) (Nat.le_of_ble_eq_true rfl) ⟨by omega, (List.forall_mem_cons.mpr ⟨xvr_ok (by omega), List.forall_mem_cons.mpr ⟨xvr_ok (by omega), fun _ h => absurd h List.not_mem_nil⟩⟩), (List.forall_mem_cons.mpr ⟨xvr_ok (by omega), fun _ h => absurd h List.not_mem_nil⟩)⟩ (i_row (r := (r + 7)) (n2 := (r + 9)) rfl F43 (by omega) rfl a43 (room := 6) (by decide) (fun sh48 J48 S48 h48 o48 F48 => ⟨rfl, ?_⟩))
  show X T zX6_init 4 17 81 P 53 [(0, .ref r)] [.ref (r + 7), .ref r] ((r + 9), sh48, 8, 32) J48 S48 L
  have Q49 := Q44.ch o48 (by omega)
  have h50 := h45.ch o48 (by omega)
  have h51 := h46.ch o48 (by omega)
  have h52 := h47.ch o48 (by omega)
  have u53 := (o48 r (by omega)).1.trans u43_0
  have g54 := (congrFun (o48 r (by omega)).2.2 0).trans g40
  have g55 := (congrFun (o48 r (by omega)).2.2 1).trans g41
  have g56 := (congrFun (o48 r (by omega)).2.2 2).trans g42
  refine x_putrF (pc := 53) dX6_init_53 kf_RX6_26 rfl rfl u53 rfl ?_
  have F57 : FRS (r + 9) J48 (up2 S48 r 3 (some (r + 7))) L := F48.pS (by omega) (by omega)
  have Q58 : OLD r sh sh48 I J48 R (up2 S48 r 3 (some (r + 7))) := Q49.pR (Nat.le_refl _)
  have h59 := h50.pR (c := r) (k := 3) (o := (some (r + 7))) (by omega)
  have h60 := h51.pR (c := r) (k := 3) (o := (some (r + 7))) (by omega)
  have h61 := h52.pR (c := r) (k := 3) (o := (some (r + 7))) (by omega)
  have h62 := h48.pR (c := r) (k := 3) (o := (some (r + 7))) (by omega)
  have g63 : (up2 S48 r 3 (some (r + 7))) r 0 = (some (r + 1)) := (up2_k (by decide)).trans g54
  have g64 : (up2 S48 r 3 (some (r + 7))) r 1 = (some (r + 3)) := (up2_k (by decide)).trans g55
  have g65 : (up2 S48 r 3 (some (r + 7))) r 2 = (some (r + 5)) := (up2_k (by decide)).trans g56
  have g66 : (up2 S48 r 3 (some (r + 7))) r 3 = (some (r + 7)) := up2_s
  refine x_aload_n (pc := 56) dX6_init_56 rfl rfl ?_
  refine x_newK (pc := 57) (ca1 := 9) (sa1 := 34) (n1 := (r + 10)) dX6_init_57 kc_RX6_9 F57 (List.forall_mem_cons.mpr ⟨xvr_ok (by omega), fun _ h => absurd h List.not_mem_nil⟩) (List.forall_mem_cons.mpr ⟨xvr_ok (by omega), fun _ h => absurd h List.not_mem_nil⟩) rfl rfl rfl (by decide) (by decide) (fun sh67 a67 b67 => ?_)
  have u67_0 := (b67 _ (by omega)).trans u53
  have F67 := F57.next (by omega)
  have Q68 := Q58.nw b67 (by omega)
  have h69 := h59.nw b67 (by omega)
  have h70 := h60.nw b67 (by omega)
  have h71 := h61.nw b67 (by omega)
  have h72 := h62.nw b67 (by omega)
  refine x_dup (pc := 60) dX6_init_60 rfl ?_
  refine x_bipush (pc := 61) (v := 6) dX6_init_61 (by decide) ?_
  refine x_callI (pc := 63) (ci := 0) (As := [.int _]) (mc := 1) (ms := 6) (r := (r + 9)) dX6_init_63 km_X5_init ki_X5_init rfl rfl kl_RX6_11 rfl (by decide) ⟨Nat.le_of_ble_eq_true rfl, Nat.le_of_ble_eq_true rfl⟩ rfl (Nat.le_of_ble_eq_true rfl) (Nat.le_of_ble_eq_true rfl) ⟨by omega, (List.forall_mem_cons.mpr ⟨xvr_ok (by omega), List.forall_mem_cons.mpr ⟨xvr_ok (by omega), fun _ h => absurd h List.not_mem_nil⟩⟩), (List.forall_mem_cons.mpr ⟨xvr_ok (by omega), fun _ h => absurd h List.not_mem_nil⟩)⟩ (i_row (r := (r + 9)) (n2 := (r + 11)) rfl F67 (by omega) rfl a67 (room := 6) (by decide) (fun sh73 J73 S73 h73 o73 F73 => ⟨rfl, ?_⟩))
  show X T zX6_init 4 17 81 P 66 [(0, .ref r)] [.ref (r + 9), .ref r] ((r + 11), sh73, 10, 40) J73 S73 L
  have Q74 := Q68.ch o73 (by omega)
  have h75 := h69.ch o73 (by omega)
  have h76 := h70.ch o73 (by omega)
  have h77 := h71.ch o73 (by omega)
  have h78 := h72.ch o73 (by omega)
  have u79 := (o73 r (by omega)).1.trans u67_0
  have g80 := (congrFun (o73 r (by omega)).2.2 0).trans g63
  have g81 := (congrFun (o73 r (by omega)).2.2 1).trans g64
  have g82 := (congrFun (o73 r (by omega)).2.2 2).trans g65
  have g83 := (congrFun (o73 r (by omega)).2.2 3).trans g66
  refine x_putrF (pc := 66) dX6_init_66 kf_RX6_29 rfl rfl u79 rfl ?_
  have F84 : FRS (r + 11) J73 (up2 S73 r 4 (some (r + 9))) L := F73.pS (by omega) (by omega)
  have Q85 : OLD r sh sh73 I J73 R (up2 S73 r 4 (some (r + 9))) := Q74.pR (Nat.le_refl _)
  have h86 := h75.pR (c := r) (k := 4) (o := (some (r + 9))) (by omega)
  have h87 := h76.pR (c := r) (k := 4) (o := (some (r + 9))) (by omega)
  have h88 := h77.pR (c := r) (k := 4) (o := (some (r + 9))) (by omega)
  have h89 := h78.pR (c := r) (k := 4) (o := (some (r + 9))) (by omega)
  have h90 := h73.pR (c := r) (k := 4) (o := (some (r + 9))) (by omega)
  have g91 : (up2 S73 r 4 (some (r + 9))) r 0 = (some (r + 1)) := (up2_k (by decide)).trans g80
  have g92 : (up2 S73 r 4 (some (r + 9))) r 1 = (some (r + 3)) := (up2_k (by decide)).trans g81
  have g93 : (up2 S73 r 4 (some (r + 9))) r 2 = (some (r + 5)) := (up2_k (by decide)).trans g82
  have g94 : (up2 S73 r 4 (some (r + 9))) r 3 = (some (r + 7)) := (up2_k (by decide)).trans g83
  have g95 : (up2 S73 r 4 (some (r + 9))) r 4 = (some (r + 9)) := up2_s
  refine x_aload_n (pc := 69) dX6_init_69 rfl rfl ?_
  refine x_newK (pc := 70) (ca1 := 11) (sa1 := 42) (n1 := (r + 12)) dX6_init_70 kc_RX6_9 F84 (List.forall_mem_cons.mpr ⟨xvr_ok (by omega), fun _ h => absurd h List.not_mem_nil⟩) (List.forall_mem_cons.mpr ⟨xvr_ok (by omega), fun _ h => absurd h List.not_mem_nil⟩) rfl rfl rfl (by decide) (by decide) (fun sh96 a96 b96 => ?_)
  have u96_0 := (b96 _ (by omega)).trans u79
  have F96 := F84.next (by omega)
  have Q97 := Q85.nw b96 (by omega)
  have h98 := h86.nw b96 (by omega)
  have h99 := h87.nw b96 (by omega)
  have h100 := h88.nw b96 (by omega)
  have h101 := h89.nw b96 (by omega)
  have h102 := h90.nw b96 (by omega)
  refine x_dup (pc := 73) dX6_init_73 rfl ?_
  refine x_bipush (pc := 74) (v := 6) dX6_init_74 (by decide) ?_
  refine x_callI (pc := 76) (ci := 0) (As := [.int _]) (mc := 1) (ms := 6) (r := (r + 11)) dX6_init_76 km_X5_init ki_X5_init rfl rfl kl_RX6_11 rfl (by decide) ⟨Nat.le_of_ble_eq_true rfl, Nat.le_of_ble_eq_true rfl⟩ rfl (Nat.le_of_ble_eq_true rfl) (Nat.le_of_ble_eq_true rfl) ⟨by omega, (List.forall_mem_cons.mpr ⟨xvr_ok (by omega), List.forall_mem_cons.mpr ⟨xvr_ok (by omega), fun _ h => absurd h List.not_mem_nil⟩⟩), (List.forall_mem_cons.mpr ⟨xvr_ok (by omega), fun _ h => absurd h List.not_mem_nil⟩)⟩ (i_row (r := (r + 11)) (n2 := (r + 13)) rfl F96 (by omega) rfl a96 (room := 6) (by decide) (fun sh103 J103 S103 h103 o103 F103 => ⟨rfl, ?_⟩))
  show X T zX6_init 4 17 81 P 79 [(0, .ref r)] [.ref (r + 11), .ref r] ((r + 13), sh103, 12, 48) J103 S103 L
  have Q104 := Q97.ch o103 (by omega)
  have h105 := h98.ch o103 (by omega)
  have h106 := h99.ch o103 (by omega)
  have h107 := h100.ch o103 (by omega)
  have h108 := h101.ch o103 (by omega)
  have h109 := h102.ch o103 (by omega)
  have u110 := (o103 r (by omega)).1.trans u96_0
  have g111 := (congrFun (o103 r (by omega)).2.2 0).trans g91
  have g112 := (congrFun (o103 r (by omega)).2.2 1).trans g92
  have g113 := (congrFun (o103 r (by omega)).2.2 2).trans g93
  have g114 := (congrFun (o103 r (by omega)).2.2 3).trans g94
  have g115 := (congrFun (o103 r (by omega)).2.2 4).trans g95
  refine x_putrF (pc := 79) dX6_init_79 kf_RX6_32 rfl rfl u110 rfl ?_
  have F116 : FRS (r + 13) J103 (up2 S103 r 5 (some (r + 11))) L := F103.pS (by omega) (by omega)
  have Q117 : OLD r sh sh103 I J103 R (up2 S103 r 5 (some (r + 11))) := Q104.pR (Nat.le_refl _)
  have h118 := h105.pR (c := r) (k := 5) (o := (some (r + 11))) (by omega)
  have h119 := h106.pR (c := r) (k := 5) (o := (some (r + 11))) (by omega)
  have h120 := h107.pR (c := r) (k := 5) (o := (some (r + 11))) (by omega)
  have h121 := h108.pR (c := r) (k := 5) (o := (some (r + 11))) (by omega)
  have h122 := h109.pR (c := r) (k := 5) (o := (some (r + 11))) (by omega)
  have h123 := h103.pR (c := r) (k := 5) (o := (some (r + 11))) (by omega)
  have g124 : (up2 S103 r 5 (some (r + 11))) r 0 = (some (r + 1)) := (up2_k (by decide)).trans g111
  have g125 : (up2 S103 r 5 (some (r + 11))) r 1 = (some (r + 3)) := (up2_k (by decide)).trans g112
  have g126 : (up2 S103 r 5 (some (r + 11))) r 2 = (some (r + 5)) := (up2_k (by decide)).trans g113
  have g127 : (up2 S103 r 5 (some (r + 11))) r 3 = (some (r + 7)) := (up2_k (by decide)).trans g114
  have g128 : (up2 S103 r 5 (some (r + 11))) r 4 = (some (r + 9)) := (up2_k (by decide)).trans g115
  have g129 : (up2 S103 r 5 (some (r + 11))) r 5 = (some (r + 11)) := up2_s
  refine x_aload_n (pc := 82) dX6_init_82 rfl rfl ?_
  refine x_newK (pc := 83) (ca1 := 13) (sa1 := 50) (n1 := (r + 14)) dX6_init_83 kc_RX6_9 F116 (List.forall_mem_cons.mpr ⟨xvr_ok (by omega), fun _ h => absurd h List.not_mem_nil⟩) (List.forall_mem_cons.mpr ⟨xvr_ok (by omega), fun _ h => absurd h List.not_mem_nil⟩) rfl rfl rfl (by decide) (by decide) (fun sh130 a130 b130 => ?_)
  have u130_0 := (b130 _ (by omega)).trans u110
  have F130 := F116.next (by omega)
  have Q131 := Q117.nw b130 (by omega)
  have h132 := h118.nw b130 (by omega)
  have h133 := h119.nw b130 (by omega)
  have h134 := h120.nw b130 (by omega)
  have h135 := h121.nw b130 (by omega)
  have h136 := h122.nw b130 (by omega)
  have h137 := h123.nw b130 (by omega)
  refine x_dup (pc := 86) dX6_init_86 rfl ?_
  refine x_bipush (pc := 87) (v := 12) dX6_init_87 (by decide) ?_
  refine x_callI (pc := 89) (ci := 0) (As := [.int _]) (mc := 1) (ms := 12) (r := (r + 13)) dX6_init_89 km_X5_init ki_X5_init rfl rfl kl_RX6_11 rfl (by decide) ⟨Nat.le_of_ble_eq_true rfl, Nat.le_of_ble_eq_true rfl⟩ rfl (Nat.le_of_ble_eq_true rfl) (Nat.le_of_ble_eq_true rfl) ⟨by omega, (List.forall_mem_cons.mpr ⟨xvr_ok (by omega), List.forall_mem_cons.mpr ⟨xvr_ok (by omega), fun _ h => absurd h List.not_mem_nil⟩⟩), (List.forall_mem_cons.mpr ⟨xvr_ok (by omega), fun _ h => absurd h List.not_mem_nil⟩)⟩ (i_row (r := (r + 13)) (n2 := (r + 15)) rfl F130 (by omega) rfl a130 (room := 12) (by decide) (fun sh138 J138 S138 h138 o138 F138 => ⟨rfl, ?_⟩))
  show X T zX6_init 4 17 81 P 92 [(0, .ref r)] [.ref (r + 13), .ref r] ((r + 15), sh138, 14, 62) J138 S138 L
  have Q139 := Q131.ch o138 (by omega)
  have h140 := h132.ch o138 (by omega)
  have h141 := h133.ch o138 (by omega)
  have h142 := h134.ch o138 (by omega)
  have h143 := h135.ch o138 (by omega)
  have h144 := h136.ch o138 (by omega)
  have h145 := h137.ch o138 (by omega)
  have u146 := (o138 r (by omega)).1.trans u130_0
  have g147 := (congrFun (o138 r (by omega)).2.2 0).trans g124
  have g148 := (congrFun (o138 r (by omega)).2.2 1).trans g125
  have g149 := (congrFun (o138 r (by omega)).2.2 2).trans g126
  have g150 := (congrFun (o138 r (by omega)).2.2 3).trans g127
  have g151 := (congrFun (o138 r (by omega)).2.2 4).trans g128
  have g152 := (congrFun (o138 r (by omega)).2.2 5).trans g129
  refine x_putrF (pc := 92) dX6_init_92 kf_RX6_35 rfl rfl u146 rfl ?_
  have F153 : FRS (r + 15) J138 (up2 S138 r 6 (some (r + 13))) L := F138.pS (by omega) (by omega)
  have Q154 : OLD r sh sh138 I J138 R (up2 S138 r 6 (some (r + 13))) := Q139.pR (Nat.le_refl _)
  have h155 := h140.pR (c := r) (k := 6) (o := (some (r + 13))) (by omega)
  have h156 := h141.pR (c := r) (k := 6) (o := (some (r + 13))) (by omega)
  have h157 := h142.pR (c := r) (k := 6) (o := (some (r + 13))) (by omega)
  have h158 := h143.pR (c := r) (k := 6) (o := (some (r + 13))) (by omega)
  have h159 := h144.pR (c := r) (k := 6) (o := (some (r + 13))) (by omega)
  have h160 := h145.pR (c := r) (k := 6) (o := (some (r + 13))) (by omega)
  have h161 := h138.pR (c := r) (k := 6) (o := (some (r + 13))) (by omega)
  have g162 : (up2 S138 r 6 (some (r + 13))) r 0 = (some (r + 1)) := (up2_k (by decide)).trans g147
  have g163 : (up2 S138 r 6 (some (r + 13))) r 1 = (some (r + 3)) := (up2_k (by decide)).trans g148
  have g164 : (up2 S138 r 6 (some (r + 13))) r 2 = (some (r + 5)) := (up2_k (by decide)).trans g149
  have g165 : (up2 S138 r 6 (some (r + 13))) r 3 = (some (r + 7)) := (up2_k (by decide)).trans g150
  have g166 : (up2 S138 r 6 (some (r + 13))) r 4 = (some (r + 9)) := (up2_k (by decide)).trans g151
  have g167 : (up2 S138 r 6 (some (r + 13))) r 5 = (some (r + 11)) := (up2_k (by decide)).trans g152
  have g168 : (up2 S138 r 6 (some (r + 13))) r 6 = (some (r + 13)) := up2_s
  refine x_aload_n (pc := 95) dX6_init_95 rfl rfl ?_
  refine x_newK (pc := 96) (ca1 := 15) (sa1 := 64) (n1 := (r + 16)) dX6_init_96 kc_RX6_9 F153 (List.forall_mem_cons.mpr ⟨xvr_ok (by omega), fun _ h => absurd h List.not_mem_nil⟩) (List.forall_mem_cons.mpr ⟨xvr_ok (by omega), fun _ h => absurd h List.not_mem_nil⟩) rfl rfl rfl (by decide) (by decide) (fun sh169 a169 b169 => ?_)
  have u169_0 := (b169 _ (by omega)).trans u146
  have F169 := F153.next (by omega)
  have Q170 := Q154.nw b169 (by omega)
  have h171 := h155.nw b169 (by omega)
  have h172 := h156.nw b169 (by omega)
  have h173 := h157.nw b169 (by omega)
  have h174 := h158.nw b169 (by omega)
  have h175 := h159.nw b169 (by omega)
  have h176 := h160.nw b169 (by omega)
  have h177 := h161.nw b169 (by omega)
  refine x_dup (pc := 99) dX6_init_99 rfl ?_
  refine x_bipush (pc := 100) (v := 10) dX6_init_100 (by decide) ?_
  refine x_callI (pc := 102) (ci := 0) (As := [.int _]) (mc := 1) (ms := 10) (r := (r + 15)) dX6_init_102 km_X5_init ki_X5_init rfl rfl kl_RX6_11 rfl (by decide) ⟨Nat.le_of_ble_eq_true rfl, Nat.le_of_ble_eq_true rfl⟩ rfl (Nat.le_of_ble_eq_true rfl) (Nat.le_of_ble_eq_true rfl) ⟨by omega, (List.forall_mem_cons.mpr ⟨xvr_ok (by omega), List.forall_mem_cons.mpr ⟨xvr_ok (by omega), fun _ h => absurd h List.not_mem_nil⟩⟩), (List.forall_mem_cons.mpr ⟨xvr_ok (by omega), fun _ h => absurd h List.not_mem_nil⟩)⟩ (i_row (r := (r + 15)) (n2 := (r + 17)) rfl F169 (by omega) rfl a169 (room := 10) (by decide) (fun sh178 J178 S178 h178 o178 F178 => ⟨rfl, ?_⟩))
  show X T zX6_init 4 17 81 P 105 [(0, .ref r)] [.ref (r + 15), .ref r] ((r + 17), sh178, 16, 74) J178 S178 L
  have Q179 := Q170.ch o178 (by omega)
  have h180 := h171.ch o178 (by omega)
  have h181 := h172.ch o178 (by omega)
  have h182 := h173.ch o178 (by omega)
  have h183 := h174.ch o178 (by omega)
  have h184 := h175.ch o178 (by omega)
  have h185 := h176.ch o178 (by omega)
  have h186 := h177.ch o178 (by omega)
  have u187 := (o178 r (by omega)).1.trans u169_0
  have g188 := (congrFun (o178 r (by omega)).2.2 0).trans g162
  have g189 := (congrFun (o178 r (by omega)).2.2 1).trans g163
  have g190 := (congrFun (o178 r (by omega)).2.2 2).trans g164
  have g191 := (congrFun (o178 r (by omega)).2.2 3).trans g165
  have g192 := (congrFun (o178 r (by omega)).2.2 4).trans g166
  have g193 := (congrFun (o178 r (by omega)).2.2 5).trans g167
  have g194 := (congrFun (o178 r (by omega)).2.2 6).trans g168
  refine x_putrF (pc := 105) dX6_init_105 kf_RX6_38 rfl rfl u187 rfl ?_
  have F195 : FRS (r + 17) J178 (up2 S178 r 7 (some (r + 15))) L := F178.pS (by omega) (by omega)
  have Q196 : OLD r sh sh178 I J178 R (up2 S178 r 7 (some (r + 15))) := Q179.pR (Nat.le_refl _)
  have h197 := h180.pR (c := r) (k := 7) (o := (some (r + 15))) (by omega)
  have h198 := h181.pR (c := r) (k := 7) (o := (some (r + 15))) (by omega)
  have h199 := h182.pR (c := r) (k := 7) (o := (some (r + 15))) (by omega)
  have h200 := h183.pR (c := r) (k := 7) (o := (some (r + 15))) (by omega)
  have h201 := h184.pR (c := r) (k := 7) (o := (some (r + 15))) (by omega)
  have h202 := h185.pR (c := r) (k := 7) (o := (some (r + 15))) (by omega)
  have h203 := h186.pR (c := r) (k := 7) (o := (some (r + 15))) (by omega)
  have h204 := h178.pR (c := r) (k := 7) (o := (some (r + 15))) (by omega)
  have g205 : (up2 S178 r 7 (some (r + 15))) r 0 = (some (r + 1)) := (up2_k (by decide)).trans g188
  have g206 : (up2 S178 r 7 (some (r + 15))) r 1 = (some (r + 3)) := (up2_k (by decide)).trans g189
  have g207 : (up2 S178 r 7 (some (r + 15))) r 2 = (some (r + 5)) := (up2_k (by decide)).trans g190
  have g208 : (up2 S178 r 7 (some (r + 15))) r 3 = (some (r + 7)) := (up2_k (by decide)).trans g191
  have g209 : (up2 S178 r 7 (some (r + 15))) r 4 = (some (r + 9)) := (up2_k (by decide)).trans g192
  have g210 : (up2 S178 r 7 (some (r + 15))) r 5 = (some (r + 11)) := (up2_k (by decide)).trans g193
  have g211 : (up2 S178 r 7 (some (r + 15))) r 6 = (some (r + 13)) := (up2_k (by decide)).trans g194
  have g212 : (up2 S178 r 7 (some (r + 15))) r 7 = (some (r + 15)) := up2_s
  refine x_aload_n (pc := 108) dX6_init_108 rfl rfl ?_
  refine x_bipush (pc := 109) (v := 35) dX6_init_109 (by decide) ?_
  refine x_put (pc := 111) dX6_init_111 kf_RX6_41 u187 rfl (Or.inl kb_6_8) ?_
  have F213 : FRS (r + 17) (up2 J178 r 8 35) (up2 S178 r 7 (some (r + 15))) L := F195.pI (by omega)
  have Q214 : OLD r sh sh178 I (up2 J178 r 8 35) R (up2 S178 r 7 (some (r + 15))) := Q196.pI (Nat.le_refl _)
  have h215 := h197.pI (c := r) (k := 8) (x := 35) (by omega)
  have h216 := h198.pI (c := r) (k := 8) (x := 35) (by omega)
  have h217 := h199.pI (c := r) (k := 8) (x := 35) (by omega)
  have h218 := h200.pI (c := r) (k := 8) (x := 35) (by omega)
  have h219 := h201.pI (c := r) (k := 8) (x := 35) (by omega)
  have h220 := h202.pI (c := r) (k := 8) (x := 35) (by omega)
  have h221 := h203.pI (c := r) (k := 8) (x := 35) (by omega)
  have h222 := h204.pI (c := r) (k := 8) (x := 35) (by omega)
  have g223 : (up2 J178 r 8 35) r 8 = 35 := up2_s
  refine x_aload_n (pc := 114) dX6_init_114 rfl rfl ?_
  refine x_iconst (pc := 115) (v := 0) dX6_init_115 (by decide) ?_
  refine x_put (pc := 116) dX6_init_116 kf_RX6_45 u187 rfl (Or.inl kb_6_9) ?_
  have F224 : FRS (r + 17) (up2 (up2 J178 r 8 35) r 9 0) (up2 S178 r 7 (some (r + 15))) L := F213.pI (by omega)
  have Q225 : OLD r sh sh178 I (up2 (up2 J178 r 8 35) r 9 0) R (up2 S178 r 7 (some (r + 15))) := Q214.pI (Nat.le_refl _)
  have h226 := h215.pI (c := r) (k := 9) (x := 0) (by omega)
  have h227 := h216.pI (c := r) (k := 9) (x := 0) (by omega)
  have h228 := h217.pI (c := r) (k := 9) (x := 0) (by omega)
  have h229 := h218.pI (c := r) (k := 9) (x := 0) (by omega)
  have h230 := h219.pI (c := r) (k := 9) (x := 0) (by omega)
  have h231 := h220.pI (c := r) (k := 9) (x := 0) (by omega)
  have h232 := h221.pI (c := r) (k := 9) (x := 0) (by omega)
  have h233 := h222.pI (c := r) (k := 9) (x := 0) (by omega)
  have g234 : (up2 (up2 J178 r 8 35) r 9 0) r 8 = 35 := (up2_k (by decide)).trans g223
  have g235 : (up2 (up2 J178 r 8 35) r 9 0) r 9 = 0 := up2_s
  refine x_aload_n (pc := 119) dX6_init_119 rfl rfl ?_
  refine x_iconst (pc := 120) (v := 0) dX6_init_120 (by decide) ?_
  refine x_put (pc := 121) dX6_init_121 kf_RX6_48 u187 rfl (Or.inl kb_6_10) ?_
  have F236 : FRS (r + 17) (up2 (up2 (up2 J178 r 8 35) r 9 0) r 10 0) (up2 S178 r 7 (some (r + 15))) L := F224.pI (by omega)
  have Q237 : OLD r sh sh178 I (up2 (up2 (up2 J178 r 8 35) r 9 0) r 10 0) R (up2 S178 r 7 (some (r + 15))) := Q225.pI (Nat.le_refl _)
  have h238 := h226.pI (c := r) (k := 10) (x := 0) (by omega)
  have h239 := h227.pI (c := r) (k := 10) (x := 0) (by omega)
  have h240 := h228.pI (c := r) (k := 10) (x := 0) (by omega)
  have h241 := h229.pI (c := r) (k := 10) (x := 0) (by omega)
  have h242 := h230.pI (c := r) (k := 10) (x := 0) (by omega)
  have h243 := h231.pI (c := r) (k := 10) (x := 0) (by omega)
  have h244 := h232.pI (c := r) (k := 10) (x := 0) (by omega)
  have h245 := h233.pI (c := r) (k := 10) (x := 0) (by omega)
  have g246 : (up2 (up2 (up2 J178 r 8 35) r 9 0) r 10 0) r 8 = 35 := (up2_k (by decide)).trans g234
  have g247 : (up2 (up2 (up2 J178 r 8 35) r 9 0) r 10 0) r 9 = 0 := (up2_k (by decide)).trans g235
  have g248 : (up2 (up2 (up2 J178 r 8 35) r 9 0) r 10 0) r 10 = 0 := up2_s
  refine x_aload_n (pc := 124) dX6_init_124 rfl rfl ?_
  refine x_null (pc := 125) dX6_init_125 ?_
  refine x_putNl (pc := 126) dX6_init_126 kf_RX6_51 u187 rfl ?_
  have F249 : FRS (r + 17) (up2 (up2 (up2 J178 r 8 35) r 9 0) r 10 0) (up2 (up2 S178 r 7 (some (r + 15))) r 11 none) L := F236.pR (by omega) (fun q e => by cases e)
  have Q250 : OLD r sh sh178 I (up2 (up2 (up2 J178 r 8 35) r 9 0) r 10 0) R (up2 (up2 S178 r 7 (some (r + 15))) r 11 none) := Q237.pR (Nat.le_refl _)
  have h251 := h238.pR (c := r) (k := 11) (o := none) (by omega)
  have h252 := h239.pR (c := r) (k := 11) (o := none) (by omega)
  have h253 := h240.pR (c := r) (k := 11) (o := none) (by omega)
  have h254 := h241.pR (c := r) (k := 11) (o := none) (by omega)
  have h255 := h242.pR (c := r) (k := 11) (o := none) (by omega)
  have h256 := h243.pR (c := r) (k := 11) (o := none) (by omega)
  have h257 := h244.pR (c := r) (k := 11) (o := none) (by omega)
  have h258 := h245.pR (c := r) (k := 11) (o := none) (by omega)
  have g259 : (up2 (up2 S178 r 7 (some (r + 15))) r 11 none) r 0 = (some (r + 1)) := (up2_k (by decide)).trans g205
  have g260 : (up2 (up2 S178 r 7 (some (r + 15))) r 11 none) r 1 = (some (r + 3)) := (up2_k (by decide)).trans g206
  have g261 : (up2 (up2 S178 r 7 (some (r + 15))) r 11 none) r 2 = (some (r + 5)) := (up2_k (by decide)).trans g207
  have g262 : (up2 (up2 S178 r 7 (some (r + 15))) r 11 none) r 3 = (some (r + 7)) := (up2_k (by decide)).trans g208
  have g263 : (up2 (up2 S178 r 7 (some (r + 15))) r 11 none) r 4 = (some (r + 9)) := (up2_k (by decide)).trans g209
  have g264 : (up2 (up2 S178 r 7 (some (r + 15))) r 11 none) r 5 = (some (r + 11)) := (up2_k (by decide)).trans g210
  have g265 : (up2 (up2 S178 r 7 (some (r + 15))) r 11 none) r 6 = (some (r + 13)) := (up2_k (by decide)).trans g211
  have g266 : (up2 (up2 S178 r 7 (some (r + 15))) r 11 none) r 7 = (some (r + 15)) := (up2_k (by decide)).trans g212
  have g267 : (up2 (up2 S178 r 7 (some (r + 15))) r 11 none) r 11 = none := up2_s
  refine x_aload_n (pc := 129) dX6_init_129 rfl rfl ?_
  refine x_iconst (pc := 130) (v := 0) dX6_init_130 (by decide) ?_
  refine x_put (pc := 131) dX6_init_131 kf_RX6_55 u187 rfl (Or.inl kb_6_12) ?_
  have F268 : FRS (r + 17) (up2 (up2 (up2 (up2 J178 r 8 35) r 9 0) r 10 0) r 12 0) (up2 (up2 S178 r 7 (some (r + 15))) r 11 none) L := F249.pI (by omega)
  have Q269 : OLD r sh sh178 I (up2 (up2 (up2 (up2 J178 r 8 35) r 9 0) r 10 0) r 12 0) R (up2 (up2 S178 r 7 (some (r + 15))) r 11 none) := Q250.pI (Nat.le_refl _)
  have h270 := h251.pI (c := r) (k := 12) (x := 0) (by omega)
  have h271 := h252.pI (c := r) (k := 12) (x := 0) (by omega)
  have h272 := h253.pI (c := r) (k := 12) (x := 0) (by omega)
  have h273 := h254.pI (c := r) (k := 12) (x := 0) (by omega)
  have h274 := h255.pI (c := r) (k := 12) (x := 0) (by omega)
  have h275 := h256.pI (c := r) (k := 12) (x := 0) (by omega)
  have h276 := h257.pI (c := r) (k := 12) (x := 0) (by omega)
  have h277 := h258.pI (c := r) (k := 12) (x := 0) (by omega)
  have g278 : (up2 (up2 (up2 (up2 J178 r 8 35) r 9 0) r 10 0) r 12 0) r 8 = 35 := (up2_k (by decide)).trans g246
  have g279 : (up2 (up2 (up2 (up2 J178 r 8 35) r 9 0) r 10 0) r 12 0) r 9 = 0 := (up2_k (by decide)).trans g247
  have g280 : (up2 (up2 (up2 (up2 J178 r 8 35) r 9 0) r 10 0) r 12 0) r 10 = 0 := (up2_k (by decide)).trans g248
  have g281 : (up2 (up2 (up2 (up2 J178 r 8 35) r 9 0) r 10 0) r 12 0) r 12 = 0 := up2_s
  refine x_aload_n (pc := 134) dX6_init_134 rfl rfl ?_
  refine x_newK (pc := 135) (ca1 := 17) (sa1 := 81) (n1 := (r + 18)) dX6_init_135 kc_RX6_58 F268 (List.forall_mem_cons.mpr ⟨xvr_ok (by omega), fun _ h => absurd h List.not_mem_nil⟩) (List.forall_mem_cons.mpr ⟨xvr_ok (by omega), fun _ h => absurd h List.not_mem_nil⟩) rfl rfl rfl (by decide) (by decide) (fun sh282 a282 b282 => ?_)
  have u282_0 := (b282 _ (by omega)).trans u187
  have F282 := F268.next (by omega)
  have Q283 := Q269.nw b282 (by omega)
  have h284 := h270.nw b282 (by omega)
  have h285 := h271.nw b282 (by omega)
  have h286 := h272.nw b282 (by omega)
  have h287 := h273.nw b282 (by omega)
  have h288 := h274.nw b282 (by omega)
  have h289 := h275.nw b282 (by omega)
  have h290 := h276.nw b282 (by omega)
  have h291 := h277.nw b282 (by omega)
  refine x_dup (pc := 138) dX6_init_138 rfl ?_
  refine x_callIN (pc := 139) (ci := 0) (As := []) (mc := 0) (ms := 0) (r := (r + 17)) dX6_init_139 km_X2_init ki_X2_init rfl rfl kn_RX6_60 rfl (by decide) ⟨by decide, by decide⟩ rfl (Nat.le_of_ble_eq_true rfl) (Nat.le_of_ble_eq_true rfl) ⟨by omega, (List.forall_mem_cons.mpr ⟨xvr_ok (by omega), List.forall_mem_cons.mpr ⟨xvr_ok (by omega), fun _ h => absurd h List.not_mem_nil⟩⟩), (List.forall_mem_cons.mpr ⟨xvr_ok (by omega), fun _ h => absurd h List.not_mem_nil⟩)⟩ (i_look ⟨rfl, ?_⟩)
  show X T zX6_init 4 17 81 P 142 [(0, .ref r)] [.ref (r + 17), .ref r] ((r + 18), sh282, 17, 81) (up2 (up2 (up2 (up2 J178 r 8 35) r 9 0) r 10 0) r 12 0) (up2 (up2 S178 r 7 (some (r + 15))) r 11 none) L
  refine x_putrF (pc := 142) dX6_init_142 kf_RX6_61 rfl rfl u282_0 rfl ?_
  have F292 : FRS (r + 18) (up2 (up2 (up2 (up2 J178 r 8 35) r 9 0) r 10 0) r 12 0) (up2 (up2 (up2 S178 r 7 (some (r + 15))) r 11 none) r 13 (some (r + 17))) L := F282.pS (by omega) (by omega)
  have Q293 : OLD r sh sh282 I (up2 (up2 (up2 (up2 J178 r 8 35) r 9 0) r 10 0) r 12 0) R (up2 (up2 (up2 S178 r 7 (some (r + 15))) r 11 none) r 13 (some (r + 17))) := Q283.pR (Nat.le_refl _)
  have h294 := h284.pR (c := r) (k := 13) (o := (some (r + 17))) (by omega)
  have h295 := h285.pR (c := r) (k := 13) (o := (some (r + 17))) (by omega)
  have h296 := h286.pR (c := r) (k := 13) (o := (some (r + 17))) (by omega)
  have h297 := h287.pR (c := r) (k := 13) (o := (some (r + 17))) (by omega)
  have h298 := h288.pR (c := r) (k := 13) (o := (some (r + 17))) (by omega)
  have h299 := h289.pR (c := r) (k := 13) (o := (some (r + 17))) (by omega)
  have h300 := h290.pR (c := r) (k := 13) (o := (some (r + 17))) (by omega)
  have h301 := h291.pR (c := r) (k := 13) (o := (some (r + 17))) (by omega)
  have g302 : (up2 (up2 (up2 S178 r 7 (some (r + 15))) r 11 none) r 13 (some (r + 17))) r 0 = (some (r + 1)) := (up2_k (by decide)).trans g259
  have g303 : (up2 (up2 (up2 S178 r 7 (some (r + 15))) r 11 none) r 13 (some (r + 17))) r 1 = (some (r + 3)) := (up2_k (by decide)).trans g260
  have g304 : (up2 (up2 (up2 S178 r 7 (some (r + 15))) r 11 none) r 13 (some (r + 17))) r 2 = (some (r + 5)) := (up2_k (by decide)).trans g261
  have g305 : (up2 (up2 (up2 S178 r 7 (some (r + 15))) r 11 none) r 13 (some (r + 17))) r 3 = (some (r + 7)) := (up2_k (by decide)).trans g262
  have g306 : (up2 (up2 (up2 S178 r 7 (some (r + 15))) r 11 none) r 13 (some (r + 17))) r 4 = (some (r + 9)) := (up2_k (by decide)).trans g263
  have g307 : (up2 (up2 (up2 S178 r 7 (some (r + 15))) r 11 none) r 13 (some (r + 17))) r 5 = (some (r + 11)) := (up2_k (by decide)).trans g264
  have g308 : (up2 (up2 (up2 S178 r 7 (some (r + 15))) r 11 none) r 13 (some (r + 17))) r 6 = (some (r + 13)) := (up2_k (by decide)).trans g265
  have g309 : (up2 (up2 (up2 S178 r 7 (some (r + 15))) r 11 none) r 13 (some (r + 17))) r 7 = (some (r + 15)) := (up2_k (by decide)).trans g266
  have g310 : (up2 (up2 (up2 S178 r 7 (some (r + 15))) r 11 none) r 13 (some (r + 17))) r 11 = none := (up2_k (by decide)).trans g267
  have g311 : (up2 (up2 (up2 S178 r 7 (some (r + 15))) r 11 none) r 13 (some (r + 17))) r 13 = (some (r + 17)) := up2_s
  refine x_aload_n (pc := 145) dX6_init_145 rfl rfl ?_
  refine x_iconst (pc := 146) (v := 0) dX6_init_146 (by decide) ?_
  refine x_put (pc := 147) dX6_init_147 kf_RX6_65 u282_0 rfl (Or.inl kb_6_14) ?_
  have F312 : FRS (r + 18) (up2 (up2 (up2 (up2 (up2 J178 r 8 35) r 9 0) r 10 0) r 12 0) r 14 0) (up2 (up2 (up2 S178 r 7 (some (r + 15))) r 11 none) r 13 (some (r + 17))) L := F292.pI (by omega)
  have Q313 : OLD r sh sh282 I (up2 (up2 (up2 (up2 (up2 J178 r 8 35) r 9 0) r 10 0) r 12 0) r 14 0) R (up2 (up2 (up2 S178 r 7 (some (r + 15))) r 11 none) r 13 (some (r + 17))) := Q293.pI (Nat.le_refl _)
  have h314 := h294.pI (c := r) (k := 14) (x := 0) (by omega)
  have h315 := h295.pI (c := r) (k := 14) (x := 0) (by omega)
  have h316 := h296.pI (c := r) (k := 14) (x := 0) (by omega)
  have h317 := h297.pI (c := r) (k := 14) (x := 0) (by omega)
  have h318 := h298.pI (c := r) (k := 14) (x := 0) (by omega)
  have h319 := h299.pI (c := r) (k := 14) (x := 0) (by omega)
  have h320 := h300.pI (c := r) (k := 14) (x := 0) (by omega)
  have h321 := h301.pI (c := r) (k := 14) (x := 0) (by omega)
  have g322 : (up2 (up2 (up2 (up2 (up2 J178 r 8 35) r 9 0) r 10 0) r 12 0) r 14 0) r 8 = 35 := (up2_k (by decide)).trans g278
  have g323 : (up2 (up2 (up2 (up2 (up2 J178 r 8 35) r 9 0) r 10 0) r 12 0) r 14 0) r 9 = 0 := (up2_k (by decide)).trans g279
  have g324 : (up2 (up2 (up2 (up2 (up2 J178 r 8 35) r 9 0) r 10 0) r 12 0) r 14 0) r 10 = 0 := (up2_k (by decide)).trans g280
  have g325 : (up2 (up2 (up2 (up2 (up2 J178 r 8 35) r 9 0) r 10 0) r 12 0) r 14 0) r 12 = 0 := (up2_k (by decide)).trans g281
  have g326 : (up2 (up2 (up2 (up2 (up2 J178 r 8 35) r 9 0) r 10 0) r 12 0) r 14 0) r 14 = 0 := up2_s
  refine x_return (pc := 150) dX6_init_150 rfl ⟨Nat.le_of_ble_eq_true rfl, Nat.le_of_ble_eq_true rfl⟩ ?_
  refine K _ _ _ (fun sh3 I3 R3 ag => ?_) Q313 F312
  obtain ⟨gs, gi, gr⟩ := ag r (Nat.le_refl _) (by omega)
  have yR0 := (congrFun gr 0).trans g302
  have yR1 := (congrFun gr 1).trans g303
  have yR2 := (congrFun gr 2).trans g304
  have yR3 := (congrFun gr 3).trans g305
  have yR4 := (congrFun gr 4).trans g306
  have yR5 := (congrFun gr 5).trans g307
  have yR6 := (congrFun gr 6).trans g308
  have yR7 := (congrFun gr 7).trans g309
  have yI8 := (congrFun gi 8).trans g322
  have yI9 := (congrFun gi 9).trans g323
  have yI10 := (congrFun gi 10).trans g324
  have yR11 := (congrFun gr 11).trans g310
  have yI12 := (congrFun gi 12).trans g325
  have yR13 := (congrFun gr 13).trans g311
  have yI14 := (congrFun gi 14).trans g326
  have ys := gs.trans u282_0
  have z0 := h314 sh3 I3 R3 (fun a p q => ag a (by omega) (by omega))
  have z1 := h315 sh3 I3 R3 (fun a p q => ag a (by omega) (by omega))
  have z2 := h316 sh3 I3 R3 (fun a p q => ag a (by omega) (by omega))
  have z3 := h317 sh3 I3 R3 (fun a p q => ag a (by omega) (by omega))
  have z4 := h318 sh3 I3 R3 (fun a p q => ag a (by omega) (by omega))
  have z5 := h319 sh3 I3 R3 (fun a p q => ag a (by omega) (by omega))
  have z6 := h320 sh3 I3 R3 (fun a p q => ag a (by omega) (by omega))
  have z7 := h321 sh3 I3 R3 (fun a p q => ag a (by omega) (by omega))
  have ysh17 := (ag (r + 17) (by omega) (by omega)).1.trans a282
  refine ⟨⟨ys, ysh17, yR13, yR0, yR1, yR2, yR3, yR4, yR5, yR6, yR7, z0.1, z1.1, z2.1, z3.1, z4.1, z5.1, z6.1, z7.1⟩, ⟨fun j hj => ?_, yI8, yI9, yI10, yI12⟩, yR11⟩
  have e0 : vsz V0 j = 0 := by
    unfold vsz
    split
    · rfl
    · split <;> rfl
  rw [e0]
  refine ⟨?_, fun i hi => absurd hi (Nat.not_lt_zero i)⟩
  rcases j with _|_|_|_|_|_|_|_|j
  · exact z0.2
  · exact z1.2
  · exact z2.2
  · exact z3.2
  · exact z4.2
  · exact z5.2
  · exact z6.2
  · exact z7.2
  · exact absurd hj (by omega)

set_option maxHeartbeats 4000000 in
set_option maxRecDepth 100000 in
theorem i_ring {T : xT} {n n2 : Nat} {sh : Nat → Nat × Nat} {I : xI} {R : xR} {L : xL} {P : xPost} {r : Nat} (hn : n = r + 1) (F : FRS n I R L) (h9 : n2 < 1000) (h2 : n2 = r + 7) (hs : sh r = (0, 4)) (K : ∀ (sh2 : Nat → Nat × Nat) (J : xI) (S : xR), RNG r (r + 7) (QRG r) sh2 J S → OLD r sh sh2 I J R S → FRS n2 J S L → P (n2, sh2, 6, 306) J S L none) : X T zX4_init 4 6 306 P 0 [(0, .ref r)] [] (n, sh, 0, 0) I R L := by
  subst hn
  subst h2
  have Q0 : OLD r sh sh I I R R := OLD.rf
  refine x_aload_n (pc := 0) dX4_init_0 rfl rfl ?_
  refine x_objInit (pc := 1) (by decide) kl_RX4_3 kw_obj.1 kw_obj.2 dX4_init_1 (Nat.le_of_ble_eq_true rfl) ?_
  refine x_aload_n (pc := 4) dX4_init_4 rfl rfl ?_
  refine x_newK (pc := 5) (ca1 := 1) (sa1 := 2) (n1 := (r + 2)) dX4_init_5 kc_RX4_9 F (List.forall_mem_cons.mpr ⟨xvr_ok (by omega), fun _ h => absurd h List.not_mem_nil⟩) (List.forall_mem_cons.mpr ⟨xvr_ok (by omega), fun _ h => absurd h List.not_mem_nil⟩) rfl rfl rfl (by decide) (by decide) (fun sh1 a1 b1 => ?_)
  have u1_0 := (b1 _ (by omega)).trans hs
  have F1 := F.next (by omega)
  have Q2 := Q0.nw b1 (by omega)
  refine x_dup (pc := 8) dX4_init_8 rfl ?_
  refine x_bipush (pc := 9) (v := 100) dX4_init_9 (by decide) ?_
  refine x_callI (pc := 11) (ci := 0) (As := [.int _]) (mc := 1) (ms := 100) (r := (r + 1)) dX4_init_11 km_X5_init ki_X5_init rfl rfl kl_RX4_11 rfl (by decide) ⟨Nat.le_of_ble_eq_true rfl, Nat.le_of_ble_eq_true rfl⟩ rfl (Nat.le_of_ble_eq_true rfl) (Nat.le_of_ble_eq_true rfl) ⟨by omega, (List.forall_mem_cons.mpr ⟨xvr_ok (by omega), List.forall_mem_cons.mpr ⟨xvr_ok (by omega), fun _ h => absurd h List.not_mem_nil⟩⟩), (List.forall_mem_cons.mpr ⟨xvr_ok (by omega), fun _ h => absurd h List.not_mem_nil⟩)⟩ (i_row (r := (r + 1)) (n2 := (r + 3)) rfl F1 (by omega) rfl a1 (room := 100) (by decide) (fun sh3 J3 S3 h3 o3 F3 => ⟨rfl, ?_⟩))
  show X T zX4_init 4 6 306 P 14 [(0, .ref r)] [.ref (r + 1), .ref r] ((r + 3), sh3, 2, 102) J3 S3 L
  have Q4 := Q2.ch o3 (by omega)
  have u5 := (o3 r (by omega)).1.trans u1_0
  refine x_putrF (pc := 14) dX4_init_14 kf_RX4_14 rfl rfl u5 rfl ?_
  have F6 : FRS (r + 3) J3 (up2 S3 r 0 (some (r + 1))) L := F3.pS (by omega) (by omega)
  have Q7 : OLD r sh sh3 I J3 R (up2 S3 r 0 (some (r + 1))) := Q4.pR (Nat.le_refl _)
  have h8 := h3.pR (c := r) (k := 0) (o := (some (r + 1))) (by omega)
  have g9 : (up2 S3 r 0 (some (r + 1))) r 0 = (some (r + 1)) := up2_s
  refine x_aload_n (pc := 17) dX4_init_17 rfl rfl ?_
  refine x_newK (pc := 18) (ca1 := 3) (sa1 := 104) (n1 := (r + 4)) dX4_init_18 kc_RX4_9 F6 (List.forall_mem_cons.mpr ⟨xvr_ok (by omega), fun _ h => absurd h List.not_mem_nil⟩) (List.forall_mem_cons.mpr ⟨xvr_ok (by omega), fun _ h => absurd h List.not_mem_nil⟩) rfl rfl rfl (by decide) (by decide) (fun sh10 a10 b10 => ?_)
  have u10_0 := (b10 _ (by omega)).trans u5
  have F10 := F6.next (by omega)
  have Q11 := Q7.nw b10 (by omega)
  have h12 := h8.nw b10 (by omega)
  refine x_dup (pc := 21) dX4_init_21 rfl ?_
  refine x_bipush (pc := 22) (v := 100) dX4_init_22 (by decide) ?_
  refine x_callI (pc := 24) (ci := 0) (As := [.int _]) (mc := 1) (ms := 100) (r := (r + 3)) dX4_init_24 km_X5_init ki_X5_init rfl rfl kl_RX4_11 rfl (by decide) ⟨Nat.le_of_ble_eq_true rfl, Nat.le_of_ble_eq_true rfl⟩ rfl (Nat.le_of_ble_eq_true rfl) (Nat.le_of_ble_eq_true rfl) ⟨by omega, (List.forall_mem_cons.mpr ⟨xvr_ok (by omega), List.forall_mem_cons.mpr ⟨xvr_ok (by omega), fun _ h => absurd h List.not_mem_nil⟩⟩), (List.forall_mem_cons.mpr ⟨xvr_ok (by omega), fun _ h => absurd h List.not_mem_nil⟩)⟩ (i_row (r := (r + 3)) (n2 := (r + 5)) rfl F10 (by omega) rfl a10 (room := 100) (by decide) (fun sh13 J13 S13 h13 o13 F13 => ⟨rfl, ?_⟩))
  show X T zX4_init 4 6 306 P 27 [(0, .ref r)] [.ref (r + 3), .ref r] ((r + 5), sh13, 4, 204) J13 S13 L
  have Q14 := Q11.ch o13 (by omega)
  have h15 := h12.ch o13 (by omega)
  have u16 := (o13 r (by omega)).1.trans u10_0
  have g17 := (congrFun (o13 r (by omega)).2.2 0).trans g9
  refine x_putrF (pc := 27) dX4_init_27 kf_RX4_20 rfl rfl u16 rfl ?_
  have F18 : FRS (r + 5) J13 (up2 S13 r 1 (some (r + 3))) L := F13.pS (by omega) (by omega)
  have Q19 : OLD r sh sh13 I J13 R (up2 S13 r 1 (some (r + 3))) := Q14.pR (Nat.le_refl _)
  have h20 := h15.pR (c := r) (k := 1) (o := (some (r + 3))) (by omega)
  have h21 := h13.pR (c := r) (k := 1) (o := (some (r + 3))) (by omega)
  have g22 : (up2 S13 r 1 (some (r + 3))) r 0 = (some (r + 1)) := (up2_k (by decide)).trans g17
  have g23 : (up2 S13 r 1 (some (r + 3))) r 1 = (some (r + 3)) := up2_s
  refine x_aload_n (pc := 30) dX4_init_30 rfl rfl ?_
  refine x_newK (pc := 31) (ca1 := 5) (sa1 := 206) (n1 := (r + 6)) dX4_init_31 kc_RX4_9 F18 (List.forall_mem_cons.mpr ⟨xvr_ok (by omega), fun _ h => absurd h List.not_mem_nil⟩) (List.forall_mem_cons.mpr ⟨xvr_ok (by omega), fun _ h => absurd h List.not_mem_nil⟩) rfl rfl rfl (by decide) (by decide) (fun sh24 a24 b24 => ?_)
  have u24_0 := (b24 _ (by omega)).trans u16
  have F24 := F18.next (by omega)
  have Q25 := Q19.nw b24 (by omega)
  have h26 := h20.nw b24 (by omega)
  have h27 := h21.nw b24 (by omega)
  refine x_dup (pc := 34) dX4_init_34 rfl ?_
  refine x_bipush (pc := 35) (v := 100) dX4_init_35 (by decide) ?_
  refine x_callI (pc := 37) (ci := 0) (As := [.int _]) (mc := 1) (ms := 100) (r := (r + 5)) dX4_init_37 km_X5_init ki_X5_init rfl rfl kl_RX4_11 rfl (by decide) ⟨Nat.le_of_ble_eq_true rfl, Nat.le_of_ble_eq_true rfl⟩ rfl (Nat.le_of_ble_eq_true rfl) (Nat.le_of_ble_eq_true rfl) ⟨by omega, (List.forall_mem_cons.mpr ⟨xvr_ok (by omega), List.forall_mem_cons.mpr ⟨xvr_ok (by omega), fun _ h => absurd h List.not_mem_nil⟩⟩), (List.forall_mem_cons.mpr ⟨xvr_ok (by omega), fun _ h => absurd h List.not_mem_nil⟩)⟩ (i_row (r := (r + 5)) (n2 := (r + 7)) rfl F24 (by omega) rfl a24 (room := 100) (by decide) (fun sh28 J28 S28 h28 o28 F28 => ⟨rfl, ?_⟩))
  show X T zX4_init 4 6 306 P 40 [(0, .ref r)] [.ref (r + 5), .ref r] ((r + 7), sh28, 6, 306) J28 S28 L
  have Q29 := Q25.ch o28 (by omega)
  have h30 := h26.ch o28 (by omega)
  have h31 := h27.ch o28 (by omega)
  have u32 := (o28 r (by omega)).1.trans u24_0
  have g33 := (congrFun (o28 r (by omega)).2.2 0).trans g22
  have g34 := (congrFun (o28 r (by omega)).2.2 1).trans g23
  refine x_putrF (pc := 40) dX4_init_40 kf_RX4_23 rfl rfl u32 rfl ?_
  have F35 : FRS (r + 7) J28 (up2 S28 r 2 (some (r + 5))) L := F28.pS (by omega) (by omega)
  have Q36 : OLD r sh sh28 I J28 R (up2 S28 r 2 (some (r + 5))) := Q29.pR (Nat.le_refl _)
  have h37 := h30.pR (c := r) (k := 2) (o := (some (r + 5))) (by omega)
  have h38 := h31.pR (c := r) (k := 2) (o := (some (r + 5))) (by omega)
  have h39 := h28.pR (c := r) (k := 2) (o := (some (r + 5))) (by omega)
  have g40 : (up2 S28 r 2 (some (r + 5))) r 0 = (some (r + 1)) := (up2_k (by decide)).trans g33
  have g41 : (up2 S28 r 2 (some (r + 5))) r 1 = (some (r + 3)) := (up2_k (by decide)).trans g34
  have g42 : (up2 S28 r 2 (some (r + 5))) r 2 = (some (r + 5)) := up2_s
  refine x_aload_n (pc := 43) dX4_init_43 rfl rfl ?_
  refine x_iconst (pc := 44) (v := 1) dX4_init_44 (by decide) ?_
  refine x_put (pc := 45) dX4_init_45 kf_RX4_26 u32 rfl (Or.inl kb_4_3) ?_
  have F43 : FRS (r + 7) (up2 J28 r 3 1) (up2 S28 r 2 (some (r + 5))) L := F35.pI (by omega)
  have Q44 : OLD r sh sh28 I (up2 J28 r 3 1) R (up2 S28 r 2 (some (r + 5))) := Q36.pI (Nat.le_refl _)
  have h45 := h37.pI (c := r) (k := 3) (x := 1) (by omega)
  have h46 := h38.pI (c := r) (k := 3) (x := 1) (by omega)
  have h47 := h39.pI (c := r) (k := 3) (x := 1) (by omega)
  have g48 : (up2 J28 r 3 1) r 3 = 1 := up2_s
  refine x_return (pc := 48) dX4_init_48 rfl ⟨Nat.le_of_ble_eq_true rfl, Nat.le_of_ble_eq_true rfl⟩ ?_
  refine K _ _ _ (fun sh3 I3 R3 ag => ?_) Q44 F43
  obtain ⟨gs, gi, gr⟩ := ag r (Nat.le_refl _) (by omega)
  have yR0 := (congrFun gr 0).trans g40
  have yR1 := (congrFun gr 1).trans g41
  have yR2 := (congrFun gr 2).trans g42
  have yI3 := (congrFun gi 3).trans g48
  have ys := gs.trans u32
  have z0 := h45 sh3 I3 R3 (fun a p q => ag a (by omega) (by omega))
  have z1 := h46 sh3 I3 R3 (fun a p q => ag a (by omega) (by omega))
  have z2 := h47 sh3 I3 R3 (fun a p q => ag a (by omega) (by omega))
  exact ⟨ys, yR0, yR1, yR2, z0.1, z1.1, z2.1⟩

set_option maxHeartbeats 4000000 in
set_option maxRecDepth 100000 in
theorem i_reader {T : xT} {n n2 : Nat} {sh : Nat → Nat × Nat} {I : xI} {R : xR} {L : xL} {P : xPost} {r : Nat} (hn : n = r + 1) (F : FRS n I R L) (h9 : n2 < 1000) (h2 : n2 = r + 10) (hs : sh r = (0, 3)) (K : ∀ (sh2 : Nat → Nat × Nat) (J : xI) (S : xR), RNG r (r + 10) (QRD r) sh2 J S → OLD r sh sh2 I J R S → FRS n2 J S L → P (n2, sh2, 9, 412) J S L none) : X T zX3_init 6 9 412 P 0 [(0, .ref r)] [] (n, sh, 0, 0) I R L := by
  subst hn
  subst h2
  have Q0 : OLD r sh sh I I R R := OLD.rf
  refine x_aload_n (pc := 0) dX3_init_0 rfl rfl ?_
  refine x_objInit (pc := 1) (by decide) kl_RX3_3 kw_obj.1 kw_obj.2 dX3_init_1 (Nat.le_of_ble_eq_true rfl) ?_
  refine x_aload_n (pc := 4) dX3_init_4 rfl rfl ?_
  refine x_newK (pc := 5) (ca1 := 1) (sa1 := 2) (n1 := (r + 2)) dX3_init_5 kc_RX3_9 F (List.forall_mem_cons.mpr ⟨xvr_ok (by omega), fun _ h => absurd h List.not_mem_nil⟩) (List.forall_mem_cons.mpr ⟨xvr_ok (by omega), fun _ h => absurd h List.not_mem_nil⟩) rfl rfl rfl (by decide) (by decide) (fun sh1 a1 b1 => ?_)
  have u1_0 := (b1 _ (by omega)).trans hs
  have F1 := F.next (by omega)
  have Q2 := Q0.nw b1 (by omega)
  refine x_dup (pc := 8) dX3_init_8 rfl ?_
  refine x_bipush (pc := 9) (v := 100) dX3_init_9 (by decide) ?_
  refine x_callI (pc := 11) (ci := 0) (As := [.int _]) (mc := 1) (ms := 100) (r := (r + 1)) dX3_init_11 km_X5_init ki_X5_init rfl rfl kl_RX3_11 rfl (by decide) ⟨Nat.le_of_ble_eq_true rfl, Nat.le_of_ble_eq_true rfl⟩ rfl (Nat.le_of_ble_eq_true rfl) (Nat.le_of_ble_eq_true rfl) ⟨by omega, (List.forall_mem_cons.mpr ⟨xvr_ok (by omega), List.forall_mem_cons.mpr ⟨xvr_ok (by omega), fun _ h => absurd h List.not_mem_nil⟩⟩), (List.forall_mem_cons.mpr ⟨xvr_ok (by omega), fun _ h => absurd h List.not_mem_nil⟩)⟩ (i_row (r := (r + 1)) (n2 := (r + 3)) rfl F1 (by omega) rfl a1 (room := 100) (by decide) (fun sh3 J3 S3 h3 o3 F3 => ⟨rfl, ?_⟩))
  show X T zX3_init 6 9 412 P 14 [(0, .ref r)] [.ref (r + 1), .ref r] ((r + 3), sh3, 2, 102) J3 S3 L
  have Q4 := Q2.ch o3 (by omega)
  have u5 := (o3 r (by omega)).1.trans u1_0
  refine x_putrF (pc := 14) dX3_init_14 kf_RX3_14 rfl rfl u5 rfl ?_
  have F6 : FRS (r + 3) J3 (up2 S3 r 0 (some (r + 1))) L := F3.pS (by omega) (by omega)
  have Q7 : OLD r sh sh3 I J3 R (up2 S3 r 0 (some (r + 1))) := Q4.pR (Nat.le_refl _)
  have h8 := h3.pR (c := r) (k := 0) (o := (some (r + 1))) (by omega)
  have g9 : (up2 S3 r 0 (some (r + 1))) r 0 = (some (r + 1)) := up2_s
  refine x_aload_n (pc := 17) dX3_init_17 rfl rfl ?_
  refine x_newK (pc := 18) (ca1 := 3) (sa1 := 106) (n1 := (r + 4)) dX3_init_18 kc_RX3_20 F6 (List.forall_mem_cons.mpr ⟨xvr_ok (by omega), fun _ h => absurd h List.not_mem_nil⟩) (List.forall_mem_cons.mpr ⟨xvr_ok (by omega), fun _ h => absurd h List.not_mem_nil⟩) rfl rfl rfl (by decide) (by decide) (fun sh10 a10 b10 => ?_)
  have u10_0 := (b10 _ (by omega)).trans u5
  have F10 := F6.next (by omega)
  have Q11 := Q7.nw b10 (by omega)
  have h12 := h8.nw b10 (by omega)
  refine x_dup (pc := 21) dX3_init_21 rfl ?_
  refine x_callIN (pc := 22) (ci := 0) (As := []) (mc := 6) (ms := 306) (r := (r + 3)) dX3_init_22 km_X4_init ki_X4_init rfl rfl kn_RX3_22 rfl (by decide) ⟨Nat.le_of_ble_eq_true rfl, Nat.le_of_ble_eq_true rfl⟩ rfl (Nat.le_of_ble_eq_true rfl) (Nat.le_of_ble_eq_true rfl) ⟨by omega, (List.forall_mem_cons.mpr ⟨xvr_ok (by omega), List.forall_mem_cons.mpr ⟨xvr_ok (by omega), fun _ h => absurd h List.not_mem_nil⟩⟩), (List.forall_mem_cons.mpr ⟨xvr_ok (by omega), fun _ h => absurd h List.not_mem_nil⟩)⟩ (i_ring (r := (r + 3)) (n2 := (r + 10)) rfl F10 (by omega) rfl a10 (fun sh13 J13 S13 h13 o13 F13 => ⟨rfl, ?_⟩))
  show X T zX3_init 6 9 412 P 25 [(0, .ref r)] [.ref (r + 3), .ref r] ((r + 10), sh13, 9, 412) J13 S13 L
  have Q14 := Q11.ch o13 (by omega)
  have h15 := h12.ch o13 (by omega)
  have u16 := (o13 r (by omega)).1.trans u10_0
  have g17 := (congrFun (o13 r (by omega)).2.2 0).trans g9
  refine x_putrF (pc := 25) dX3_init_25 kf_RX3_23 rfl rfl u16 rfl ?_
  have F18 : FRS (r + 10) J13 (up2 S13 r 1 (some (r + 3))) L := F13.pS (by omega) (by omega)
  have Q19 : OLD r sh sh13 I J13 R (up2 S13 r 1 (some (r + 3))) := Q14.pR (Nat.le_refl _)
  have h20 := h15.pR (c := r) (k := 1) (o := (some (r + 3))) (by omega)
  have h21 := h13.pR (c := r) (k := 1) (o := (some (r + 3))) (by omega)
  have g22 : (up2 S13 r 1 (some (r + 3))) r 0 = (some (r + 1)) := (up2_k (by decide)).trans g17
  have g23 : (up2 S13 r 1 (some (r + 3))) r 1 = (some (r + 3)) := up2_s
  refine x_aload_n (pc := 28) dX3_init_28 rfl rfl ?_
  refine x_iconst (pc := 29) (v := 0) dX3_init_29 (by decide) ?_
  refine x_put (pc := 30) dX3_init_30 kf_RX3_27 u16 rfl (Or.inl kb_3_2) ?_
  have F24 : FRS (r + 10) (up2 J13 r 2 0) (up2 S13 r 1 (some (r + 3))) L := F18.pI (by omega)
  have Q25 : OLD r sh sh13 I (up2 J13 r 2 0) R (up2 S13 r 1 (some (r + 3))) := Q19.pI (Nat.le_refl _)
  have h26 := h20.pI (c := r) (k := 2) (x := 0) (by omega)
  have h27 := h21.pI (c := r) (k := 2) (x := 0) (by omega)
  have g28 : (up2 J13 r 2 0) r 2 = 0 := up2_s
  refine x_return (pc := 33) dX3_init_33 rfl ⟨Nat.le_of_ble_eq_true rfl, Nat.le_of_ble_eq_true rfl⟩ ?_
  refine K _ _ _ (fun sh3 I3 R3 ag => ?_) Q25 F24
  obtain ⟨gs, gi, gr⟩ := ag r (Nat.le_refl _) (by omega)
  have yR0 := (congrFun gr 0).trans g22
  have yR1 := (congrFun gr 1).trans g23
  have yI2 := (congrFun gi 2).trans g28
  have ys := gs.trans u16
  have z0 := h26 sh3 I3 R3 (fun a p q => ag a (by omega) (by omega))
  have z1 := h27 sh3 I3 R3 (fun a p q => ag a (by omega) (by omega))
  exact ⟨ys, yR0, yR1, z0.1, z1, z0.2⟩

set_option maxHeartbeats 4000000 in
set_option maxRecDepth 100000 in
theorem i_hunt {T : xT} {n n2 : Nat} {sh : Nat → Nat × Nat} {I : xI} {R : xR} {L : xL} {P : xPost} {r : Nat} (hn : n = r + 1) (F : FRS n I R L) (h9 : n2 < 1000) (h2 : n2 = r + 6) (hs : sh r = (0, 1)) (K : ∀ (sh2 : Nat → Nat × Nat) (J : xI) (S : xR), RNG r (r + 6) (QHU r) sh2 J S → OLD r sh sh2 I J R S → FRS n2 J S L → P (n2, sh2, 5, 2347) J S L none) : X T zX1_init 4 5 2347 P 0 [(0, .ref r)] [] (n, sh, 0, 0) I R L := by
  subst hn
  subst h2
  have Q0 : OLD r sh sh I I R R := OLD.rf
  refine x_aload_n (pc := 0) dX1_init_0 rfl rfl ?_
  refine x_objInit (pc := 1) (by decide) kl_RX1_3 kw_obj.1 kw_obj.2 dX1_init_1 (Nat.le_of_ble_eq_true rfl) ?_
  refine x_aload_n (pc := 4) dX1_init_4 rfl rfl ?_
  refine x_sipush (pc := 5) (v := 781) dX1_init_5 (by decide) ?_
  refine x_newarrK (pc := 8) (t := 3) (len := 781) (ca1 := 1) (sa1 := 781) (n1 := (r + 2)) dX1_init_8 (Or.inr (Or.inr ⟨rfl, rfl⟩)) kr_long rfl (by omega) F (List.forall_mem_cons.mpr ⟨xvr_ok (by omega), fun _ h => absurd h List.not_mem_nil⟩) (List.forall_mem_cons.mpr ⟨xvr_ok (by omega), fun _ h => absurd h List.not_mem_nil⟩) rfl rfl rfl (by decide) (by decide) (fun sh1 a1 b1 => ?_)
  have u1_0 := (b1 _ (by omega)).trans hs
  have F1 := F.next (by omega)
  have Q2 := Q0.nw b1 (by omega)
  refine x_putrF (pc := 10) dX1_init_10 kf_RX1_11 rfl rfl u1_0 rfl ?_
  have F3 : FRS (r + 2) I (up2 R r 0 (some (r + 1))) L := F1.pS (by omega) (by omega)
  have Q4 : OLD r sh sh1 I I R (up2 R r 0 (some (r + 1))) := Q2.pR (Nat.le_refl _)
  have g5 : (up2 R r 0 (some (r + 1))) r 0 = (some (r + 1)) := up2_s
  refine x_aload_n (pc := 13) dX1_init_13 rfl rfl ?_
  refine x_newK (pc := 14) (ca1 := 2) (sa1 := 783) (n1 := (r + 3)) dX1_init_14 kc_RX1_15 F3 (List.forall_mem_cons.mpr ⟨xvr_ok (by omega), fun _ h => absurd h List.not_mem_nil⟩) (List.forall_mem_cons.mpr ⟨xvr_ok (by omega), fun _ h => absurd h List.not_mem_nil⟩) rfl rfl rfl (by decide) (by decide) (fun sh6 a6 b6 => ?_)
  have u6_0 := (b6 _ (by omega)).trans u1_0
  have u6_1 := (b6 _ (by omega)).trans a1
  have F6 := F3.next (by omega)
  have Q7 := Q4.nw b6 (by omega)
  refine x_dup (pc := 17) dX1_init_17 rfl ?_
  refine x_sipush (pc := 18) (v := 781) dX1_init_18 (by decide) ?_
  refine x_callI (pc := 21) (ci := 0) (As := [.int _]) (mc := 1) (ms := 781) (r := (r + 2)) dX1_init_21 km_X5_init ki_X5_init rfl rfl kl_RX1_17 rfl (by decide) ⟨Nat.le_of_ble_eq_true rfl, Nat.le_of_ble_eq_true rfl⟩ rfl (Nat.le_of_ble_eq_true rfl) (Nat.le_of_ble_eq_true rfl) ⟨by omega, (List.forall_mem_cons.mpr ⟨xvr_ok (by omega), List.forall_mem_cons.mpr ⟨xvr_ok (by omega), fun _ h => absurd h List.not_mem_nil⟩⟩), (List.forall_mem_cons.mpr ⟨xvr_ok (by omega), fun _ h => absurd h List.not_mem_nil⟩)⟩ (i_row (r := (r + 2)) (n2 := (r + 4)) rfl F6 (by omega) rfl a6 (room := 781) (by decide) (fun sh8 J8 S8 h8 o8 F8 => ⟨rfl, ?_⟩))
  show X T zX1_init 4 5 2347 P 24 [(0, .ref r)] [.ref (r + 2), .ref r] ((r + 4), sh8, 3, 1564) J8 S8 L
  have Q9 := Q7.ch o8 (by omega)
  have u10 := (o8 r (by omega)).1.trans u6_0
  have u11 := (o8 (r + 1) (by omega)).1.trans u6_1
  have g12 := (congrFun (o8 r (by omega)).2.2 0).trans g5
  refine x_putrF (pc := 24) dX1_init_24 kf_RX1_20 rfl rfl u10 rfl ?_
  have F13 : FRS (r + 4) J8 (up2 S8 r 1 (some (r + 2))) L := F8.pS (by omega) (by omega)
  have Q14 : OLD r sh sh8 I J8 R (up2 S8 r 1 (some (r + 2))) := Q9.pR (Nat.le_refl _)
  have h15 := h8.pR (c := r) (k := 1) (o := (some (r + 2))) (by omega)
  have g16 : (up2 S8 r 1 (some (r + 2))) r 0 = (some (r + 1)) := (up2_k (by decide)).trans g12
  have g17 : (up2 S8 r 1 (some (r + 2))) r 1 = (some (r + 2)) := up2_s
  refine x_aload_n (pc := 27) dX1_init_27 rfl rfl ?_
  refine x_newK (pc := 28) (ca1 := 4) (sa1 := 1566) (n1 := (r + 5)) dX1_init_28 kc_RX1_15 F13 (List.forall_mem_cons.mpr ⟨xvr_ok (by omega), fun _ h => absurd h List.not_mem_nil⟩) (List.forall_mem_cons.mpr ⟨xvr_ok (by omega), fun _ h => absurd h List.not_mem_nil⟩) rfl rfl rfl (by decide) (by decide) (fun sh18 a18 b18 => ?_)
  have u18_0 := (b18 _ (by omega)).trans u10
  have u18_1 := (b18 _ (by omega)).trans u11
  have F18 := F13.next (by omega)
  have Q19 := Q14.nw b18 (by omega)
  have h20 := h15.nw b18 (by omega)
  refine x_dup (pc := 31) dX1_init_31 rfl ?_
  refine x_sipush (pc := 32) (v := 781) dX1_init_32 (by decide) ?_
  refine x_callI (pc := 35) (ci := 0) (As := [.int _]) (mc := 1) (ms := 781) (r := (r + 4)) dX1_init_35 km_X5_init ki_X5_init rfl rfl kl_RX1_17 rfl (by decide) ⟨Nat.le_of_ble_eq_true rfl, Nat.le_of_ble_eq_true rfl⟩ rfl (Nat.le_of_ble_eq_true rfl) (Nat.le_of_ble_eq_true rfl) ⟨by omega, (List.forall_mem_cons.mpr ⟨xvr_ok (by omega), List.forall_mem_cons.mpr ⟨xvr_ok (by omega), fun _ h => absurd h List.not_mem_nil⟩⟩), (List.forall_mem_cons.mpr ⟨xvr_ok (by omega), fun _ h => absurd h List.not_mem_nil⟩)⟩ (i_row (r := (r + 4)) (n2 := (r + 6)) rfl F18 (by omega) rfl a18 (room := 781) (by decide) (fun sh21 J21 S21 h21 o21 F21 => ⟨rfl, ?_⟩))
  show X T zX1_init 4 5 2347 P 38 [(0, .ref r)] [.ref (r + 4), .ref r] ((r + 6), sh21, 5, 2347) J21 S21 L
  have Q22 := Q19.ch o21 (by omega)
  have h23 := h20.ch o21 (by omega)
  have u24 := (o21 r (by omega)).1.trans u18_0
  have u25 := (o21 (r + 1) (by omega)).1.trans u18_1
  have g26 := (congrFun (o21 r (by omega)).2.2 0).trans g16
  have g27 := (congrFun (o21 r (by omega)).2.2 1).trans g17
  refine x_putrF (pc := 38) dX1_init_38 kf_RX1_24 rfl rfl u24 rfl ?_
  have F28 : FRS (r + 6) J21 (up2 S21 r 2 (some (r + 4))) L := F21.pS (by omega) (by omega)
  have Q29 : OLD r sh sh21 I J21 R (up2 S21 r 2 (some (r + 4))) := Q22.pR (Nat.le_refl _)
  have h30 := h23.pR (c := r) (k := 2) (o := (some (r + 4))) (by omega)
  have h31 := h21.pR (c := r) (k := 2) (o := (some (r + 4))) (by omega)
  have g32 : (up2 S21 r 2 (some (r + 4))) r 0 = (some (r + 1)) := (up2_k (by decide)).trans g26
  have g33 : (up2 S21 r 2 (some (r + 4))) r 1 = (some (r + 2)) := (up2_k (by decide)).trans g27
  have g34 : (up2 S21 r 2 (some (r + 4))) r 2 = (some (r + 4)) := up2_s
  refine x_aload_n (pc := 41) dX1_init_41 rfl rfl ?_
  refine x_bipush (pc := 42) (v := -5) dX1_init_42 (by decide) ?_
  refine x_put (pc := 44) dX1_init_44 kf_RX1_27 u24 rfl (Or.inl kb_1_3) ?_
  have F35 : FRS (r + 6) (up2 J21 r 3 (-5)) (up2 S21 r 2 (some (r + 4))) L := F28.pI (by omega)
  have Q36 : OLD r sh sh21 I (up2 J21 r 3 (-5)) R (up2 S21 r 2 (some (r + 4))) := Q29.pI (Nat.le_refl _)
  have h37 := h30.pI (c := r) (k := 3) (x := (-5)) (by omega)
  have h38 := h31.pI (c := r) (k := 3) (x := (-5)) (by omega)
  have g39 : (up2 J21 r 3 (-5)) r 3 = (-5) := up2_s
  refine x_aload_n (pc := 47) dX1_init_47 rfl rfl ?_
  refine x_iconst (pc := 48) (v := 0) dX1_init_48 (by decide) ?_
  refine x_put (pc := 49) dX1_init_49 kf_RX1_31 u24 rfl (Or.inl kb_1_4) ?_
  have F40 : FRS (r + 6) (up2 (up2 J21 r 3 (-5)) r 4 0) (up2 S21 r 2 (some (r + 4))) L := F35.pI (by omega)
  have Q41 : OLD r sh sh21 I (up2 (up2 J21 r 3 (-5)) r 4 0) R (up2 S21 r 2 (some (r + 4))) := Q36.pI (Nat.le_refl _)
  have h42 := h37.pI (c := r) (k := 4) (x := 0) (by omega)
  have h43 := h38.pI (c := r) (k := 4) (x := 0) (by omega)
  have g44 : (up2 (up2 J21 r 3 (-5)) r 4 0) r 3 = (-5) := (up2_k (by decide)).trans g39
  have g45 : (up2 (up2 J21 r 3 (-5)) r 4 0) r 4 = 0 := up2_s
  refine x_return (pc := 52) dX1_init_52 rfl ⟨Nat.le_of_ble_eq_true rfl, Nat.le_of_ble_eq_true rfl⟩ ?_
  refine K _ _ _ (fun sh3 I3 R3 ag => ?_) Q41 F40
  obtain ⟨gs, gi, gr⟩ := ag r (Nat.le_refl _) (by omega)
  have yR0 := (congrFun gr 0).trans g32
  have yR1 := (congrFun gr 1).trans g33
  have yR2 := (congrFun gr 2).trans g34
  have yI3 := (congrFun gi 3).trans g44
  have yI4 := (congrFun gi 4).trans g45
  have ys := gs.trans u24
  have z0 := h42 sh3 I3 R3 (fun a p q => ag a (by omega) (by omega))
  have z1 := h43 sh3 I3 R3 (fun a p q => ag a (by omega) (by omega))
  have ysh1 := (ag (r + 1) (by omega) (by omega)).1.trans u25
  exact ⟨ys, yR0, ysh1, yR1, yR2, z0.1, z1.1⟩

set_option maxHeartbeats 4000000 in
set_option maxRecDepth 100000 in
theorem i_seat {T : xT} {n n2 : Nat} {sh : Nat → Nat × Nat} {I : xI} {R : xR} {L : xL} {P : xPost} {r : Nat} (hn : n = r + 1) (F : FRS n I R L) (h9 : n2 < 1000) (h2 : n2 = r + 7) (hs : sh r = (0, 7)) (K : ∀ (sh2 : Nat → Nat × Nat) (J : xI) (S : xR), RNG r (r + 7) (QSE r) sh2 J S → OLD r sh sh2 I J R S → FRS n2 J S L → P (n2, sh2, 6, 24) J S L none) : X T zX7_init 4 6 24 P 0 [(0, .ref r)] [] (n, sh, 0, 0) I R L := by
  subst hn
  subst h2
  have Q0 : OLD r sh sh I I R R := OLD.rf
  refine x_aload_n (pc := 0) dX7_init_0 rfl rfl ?_
  refine x_objInit (pc := 1) (by decide) kl_RX7_3 kw_obj.1 kw_obj.2 dX7_init_1 (Nat.le_of_ble_eq_true rfl) ?_
  refine x_aload_n (pc := 4) dX7_init_4 rfl rfl ?_
  refine x_newK (pc := 5) (ca1 := 1) (sa1 := 2) (n1 := (r + 2)) dX7_init_5 kc_RX7_9 F (List.forall_mem_cons.mpr ⟨xvr_ok (by omega), fun _ h => absurd h List.not_mem_nil⟩) (List.forall_mem_cons.mpr ⟨xvr_ok (by omega), fun _ h => absurd h List.not_mem_nil⟩) rfl rfl rfl (by decide) (by decide) (fun sh1 a1 b1 => ?_)
  have u1_0 := (b1 _ (by omega)).trans hs
  have F1 := F.next (by omega)
  have Q2 := Q0.nw b1 (by omega)
  refine x_dup (pc := 8) dX7_init_8 rfl ?_
  refine x_bipush (pc := 9) (v := 6) dX7_init_9 (by decide) ?_
  refine x_callI (pc := 11) (ci := 0) (As := [.int _]) (mc := 1) (ms := 6) (r := (r + 1)) dX7_init_11 km_X5_init ki_X5_init rfl rfl kl_RX7_11 rfl (by decide) ⟨Nat.le_of_ble_eq_true rfl, Nat.le_of_ble_eq_true rfl⟩ rfl (Nat.le_of_ble_eq_true rfl) (Nat.le_of_ble_eq_true rfl) ⟨by omega, (List.forall_mem_cons.mpr ⟨xvr_ok (by omega), List.forall_mem_cons.mpr ⟨xvr_ok (by omega), fun _ h => absurd h List.not_mem_nil⟩⟩), (List.forall_mem_cons.mpr ⟨xvr_ok (by omega), fun _ h => absurd h List.not_mem_nil⟩)⟩ (i_row (r := (r + 1)) (n2 := (r + 3)) rfl F1 (by omega) rfl a1 (room := 6) (by decide) (fun sh3 J3 S3 h3 o3 F3 => ⟨rfl, ?_⟩))
  show X T zX7_init 4 6 24 P 14 [(0, .ref r)] [.ref (r + 1), .ref r] ((r + 3), sh3, 2, 8) J3 S3 L
  have Q4 := Q2.ch o3 (by omega)
  have u5 := (o3 r (by omega)).1.trans u1_0
  refine x_putrF (pc := 14) dX7_init_14 kf_RX7_14 rfl rfl u5 rfl ?_
  have F6 : FRS (r + 3) J3 (up2 S3 r 0 (some (r + 1))) L := F3.pS (by omega) (by omega)
  have Q7 : OLD r sh sh3 I J3 R (up2 S3 r 0 (some (r + 1))) := Q4.pR (Nat.le_refl _)
  have h8 := h3.pR (c := r) (k := 0) (o := (some (r + 1))) (by omega)
  have g9 : (up2 S3 r 0 (some (r + 1))) r 0 = (some (r + 1)) := up2_s
  refine x_aload_n (pc := 17) dX7_init_17 rfl rfl ?_
  refine x_newK (pc := 18) (ca1 := 3) (sa1 := 10) (n1 := (r + 4)) dX7_init_18 kc_RX7_9 F6 (List.forall_mem_cons.mpr ⟨xvr_ok (by omega), fun _ h => absurd h List.not_mem_nil⟩) (List.forall_mem_cons.mpr ⟨xvr_ok (by omega), fun _ h => absurd h List.not_mem_nil⟩) rfl rfl rfl (by decide) (by decide) (fun sh10 a10 b10 => ?_)
  have u10_0 := (b10 _ (by omega)).trans u5
  have F10 := F6.next (by omega)
  have Q11 := Q7.nw b10 (by omega)
  have h12 := h8.nw b10 (by omega)
  refine x_dup (pc := 21) dX7_init_21 rfl ?_
  refine x_bipush (pc := 22) (v := 6) dX7_init_22 (by decide) ?_
  refine x_callI (pc := 24) (ci := 0) (As := [.int _]) (mc := 1) (ms := 6) (r := (r + 3)) dX7_init_24 km_X5_init ki_X5_init rfl rfl kl_RX7_11 rfl (by decide) ⟨Nat.le_of_ble_eq_true rfl, Nat.le_of_ble_eq_true rfl⟩ rfl (Nat.le_of_ble_eq_true rfl) (Nat.le_of_ble_eq_true rfl) ⟨by omega, (List.forall_mem_cons.mpr ⟨xvr_ok (by omega), List.forall_mem_cons.mpr ⟨xvr_ok (by omega), fun _ h => absurd h List.not_mem_nil⟩⟩), (List.forall_mem_cons.mpr ⟨xvr_ok (by omega), fun _ h => absurd h List.not_mem_nil⟩)⟩ (i_row (r := (r + 3)) (n2 := (r + 5)) rfl F10 (by omega) rfl a10 (room := 6) (by decide) (fun sh13 J13 S13 h13 o13 F13 => ⟨rfl, ?_⟩))
  show X T zX7_init 4 6 24 P 27 [(0, .ref r)] [.ref (r + 3), .ref r] ((r + 5), sh13, 4, 16) J13 S13 L
  have Q14 := Q11.ch o13 (by omega)
  have h15 := h12.ch o13 (by omega)
  have u16 := (o13 r (by omega)).1.trans u10_0
  have g17 := (congrFun (o13 r (by omega)).2.2 0).trans g9
  refine x_putrF (pc := 27) dX7_init_27 kf_RX7_20 rfl rfl u16 rfl ?_
  have F18 : FRS (r + 5) J13 (up2 S13 r 1 (some (r + 3))) L := F13.pS (by omega) (by omega)
  have Q19 : OLD r sh sh13 I J13 R (up2 S13 r 1 (some (r + 3))) := Q14.pR (Nat.le_refl _)
  have h20 := h15.pR (c := r) (k := 1) (o := (some (r + 3))) (by omega)
  have h21 := h13.pR (c := r) (k := 1) (o := (some (r + 3))) (by omega)
  have g22 : (up2 S13 r 1 (some (r + 3))) r 0 = (some (r + 1)) := (up2_k (by decide)).trans g17
  have g23 : (up2 S13 r 1 (some (r + 3))) r 1 = (some (r + 3)) := up2_s
  refine x_aload_n (pc := 30) dX7_init_30 rfl rfl ?_
  refine x_newK (pc := 31) (ca1 := 5) (sa1 := 18) (n1 := (r + 6)) dX7_init_31 kc_RX7_9 F18 (List.forall_mem_cons.mpr ⟨xvr_ok (by omega), fun _ h => absurd h List.not_mem_nil⟩) (List.forall_mem_cons.mpr ⟨xvr_ok (by omega), fun _ h => absurd h List.not_mem_nil⟩) rfl rfl rfl (by decide) (by decide) (fun sh24 a24 b24 => ?_)
  have u24_0 := (b24 _ (by omega)).trans u16
  have F24 := F18.next (by omega)
  have Q25 := Q19.nw b24 (by omega)
  have h26 := h20.nw b24 (by omega)
  have h27 := h21.nw b24 (by omega)
  refine x_dup (pc := 34) dX7_init_34 rfl ?_
  refine x_bipush (pc := 35) (v := 6) dX7_init_35 (by decide) ?_
  refine x_callI (pc := 37) (ci := 0) (As := [.int _]) (mc := 1) (ms := 6) (r := (r + 5)) dX7_init_37 km_X5_init ki_X5_init rfl rfl kl_RX7_11 rfl (by decide) ⟨Nat.le_of_ble_eq_true rfl, Nat.le_of_ble_eq_true rfl⟩ rfl (Nat.le_of_ble_eq_true rfl) (Nat.le_of_ble_eq_true rfl) ⟨by omega, (List.forall_mem_cons.mpr ⟨xvr_ok (by omega), List.forall_mem_cons.mpr ⟨xvr_ok (by omega), fun _ h => absurd h List.not_mem_nil⟩⟩), (List.forall_mem_cons.mpr ⟨xvr_ok (by omega), fun _ h => absurd h List.not_mem_nil⟩)⟩ (i_row (r := (r + 5)) (n2 := (r + 7)) rfl F24 (by omega) rfl a24 (room := 6) (by decide) (fun sh28 J28 S28 h28 o28 F28 => ⟨rfl, ?_⟩))
  show X T zX7_init 4 6 24 P 40 [(0, .ref r)] [.ref (r + 5), .ref r] ((r + 7), sh28, 6, 24) J28 S28 L
  have Q29 := Q25.ch o28 (by omega)
  have h30 := h26.ch o28 (by omega)
  have h31 := h27.ch o28 (by omega)
  have u32 := (o28 r (by omega)).1.trans u24_0
  have g33 := (congrFun (o28 r (by omega)).2.2 0).trans g22
  have g34 := (congrFun (o28 r (by omega)).2.2 1).trans g23
  refine x_putrF (pc := 40) dX7_init_40 kf_RX7_23 rfl rfl u32 rfl ?_
  have F35 : FRS (r + 7) J28 (up2 S28 r 2 (some (r + 5))) L := F28.pS (by omega) (by omega)
  have Q36 : OLD r sh sh28 I J28 R (up2 S28 r 2 (some (r + 5))) := Q29.pR (Nat.le_refl _)
  have h37 := h30.pR (c := r) (k := 2) (o := (some (r + 5))) (by omega)
  have h38 := h31.pR (c := r) (k := 2) (o := (some (r + 5))) (by omega)
  have h39 := h28.pR (c := r) (k := 2) (o := (some (r + 5))) (by omega)
  have g40 : (up2 S28 r 2 (some (r + 5))) r 0 = (some (r + 1)) := (up2_k (by decide)).trans g33
  have g41 : (up2 S28 r 2 (some (r + 5))) r 1 = (some (r + 3)) := (up2_k (by decide)).trans g34
  have g42 : (up2 S28 r 2 (some (r + 5))) r 2 = (some (r + 5)) := up2_s
  refine x_aload_n (pc := 43) dX7_init_43 rfl rfl ?_
  refine x_bipush (pc := 44) (v := -5) dX7_init_44 (by decide) ?_
  refine x_put (pc := 46) dX7_init_46 kf_RX7_26 u32 rfl (Or.inl kb_7_3) ?_
  have F43 : FRS (r + 7) (up2 J28 r 3 (-5)) (up2 S28 r 2 (some (r + 5))) L := F35.pI (by omega)
  have Q44 : OLD r sh sh28 I (up2 J28 r 3 (-5)) R (up2 S28 r 2 (some (r + 5))) := Q36.pI (Nat.le_refl _)
  have h45 := h37.pI (c := r) (k := 3) (x := (-5)) (by omega)
  have h46 := h38.pI (c := r) (k := 3) (x := (-5)) (by omega)
  have h47 := h39.pI (c := r) (k := 3) (x := (-5)) (by omega)
  have g48 : (up2 J28 r 3 (-5)) r 3 = (-5) := up2_s
  refine x_return (pc := 49) dX7_init_49 rfl ⟨Nat.le_of_ble_eq_true rfl, Nat.le_of_ble_eq_true rfl⟩ ?_
  refine K _ _ _ (fun sh3 I3 R3 ag => ?_) Q44 F43
  obtain ⟨gs, gi, gr⟩ := ag r (Nat.le_refl _) (by omega)
  have yR0 := (congrFun gr 0).trans g40
  have yR1 := (congrFun gr 1).trans g41
  have yR2 := (congrFun gr 2).trans g42
  have yI3 := (congrFun gi 3).trans g48
  have ys := gs.trans u32
  have z0 := h45 sh3 I3 R3 (fun a p q => ag a (by omega) (by omega))
  have z1 := h46 sh3 I3 R3 (fun a p q => ag a (by omega) (by omega))
  have z2 := h47 sh3 I3 R3 (fun a p q => ag a (by omega) (by omega))
  exact ⟨ys, yR0, yR1, yR2, z0.1, z1.1, z2.1⟩

set_option maxHeartbeats 4000000 in
set_option maxRecDepth 100000 in
theorem i_acts {T : xT} {n n2 : Nat} {sh : Nat → Nat × Nat} {I : xI} {R : xR} {L : xL} {P : xPost} {r : Nat} (hn : n = r + 1) (F : FRS n I R L) (h9 : n2 < 1000) (h2 : n2 = r + 3) (hs : sh r = (0, 0)) (K : ∀ (sh2 : Nat → Nat × Nat) (J : xI) (S : xR), RNG r (r + 3) (QAC r) sh2 J S → OLD r sh sh2 I J R S → FRS n2 J S L → P (n2, sh2, 2, 22) J S L none) : X T zX0_init 4 2 22 P 0 [(0, .ref r)] [] (n, sh, 0, 0) I R L := by
  subst hn
  subst h2
  have Q0 : OLD r sh sh I I R R := OLD.rf
  refine x_aload_n (pc := 0) dX0_init_0 rfl rfl ?_
  refine x_objInit (pc := 1) (by decide) kl_RX0_3 kw_obj.1 kw_obj.2 dX0_init_1 (Nat.le_of_ble_eq_true rfl) ?_
  refine x_aload_n (pc := 4) dX0_init_4 rfl rfl ?_
  refine x_newK (pc := 5) (ca1 := 1) (sa1 := 2) (n1 := (r + 2)) dX0_init_5 kc_RX0_9 F (List.forall_mem_cons.mpr ⟨xvr_ok (by omega), fun _ h => absurd h List.not_mem_nil⟩) (List.forall_mem_cons.mpr ⟨xvr_ok (by omega), fun _ h => absurd h List.not_mem_nil⟩) rfl rfl rfl (by decide) (by decide) (fun sh1 a1 b1 => ?_)
  have u1_0 := (b1 _ (by omega)).trans hs
  have F1 := F.next (by omega)
  have Q2 := Q0.nw b1 (by omega)
  refine x_dup (pc := 8) dX0_init_8 rfl ?_
  refine x_bipush (pc := 9) (v := 20) dX0_init_9 (by decide) ?_
  refine x_callI (pc := 11) (ci := 0) (As := [.int _]) (mc := 1) (ms := 20) (r := (r + 1)) dX0_init_11 km_X5_init ki_X5_init rfl rfl kl_RX0_13 rfl (by decide) ⟨Nat.le_of_ble_eq_true rfl, Nat.le_of_ble_eq_true rfl⟩ rfl (Nat.le_of_ble_eq_true rfl) (Nat.le_of_ble_eq_true rfl) ⟨by omega, (List.forall_mem_cons.mpr ⟨xvr_ok (by omega), List.forall_mem_cons.mpr ⟨xvr_ok (by omega), fun _ h => absurd h List.not_mem_nil⟩⟩), (List.forall_mem_cons.mpr ⟨xvr_ok (by omega), fun _ h => absurd h List.not_mem_nil⟩)⟩ (i_row (r := (r + 1)) (n2 := (r + 3)) rfl F1 (by omega) rfl a1 (room := 20) (by decide) (fun sh3 J3 S3 h3 o3 F3 => ⟨rfl, ?_⟩))
  show X T zX0_init 4 2 22 P 14 [(0, .ref r)] [.ref (r + 1), .ref r] ((r + 3), sh3, 2, 22) J3 S3 L
  have Q4 := Q2.ch o3 (by omega)
  have u5 := (o3 r (by omega)).1.trans u1_0
  refine x_putrF (pc := 14) dX0_init_14 kf_RX0_16 rfl rfl u5 rfl ?_
  have F6 : FRS (r + 3) J3 (up2 S3 r 0 (some (r + 1))) L := F3.pS (by omega) (by omega)
  have Q7 : OLD r sh sh3 I J3 R (up2 S3 r 0 (some (r + 1))) := Q4.pR (Nat.le_refl _)
  have h8 := h3.pR (c := r) (k := 0) (o := (some (r + 1))) (by omega)
  have g9 : (up2 S3 r 0 (some (r + 1))) r 0 = (some (r + 1)) := up2_s
  refine x_aload_n (pc := 17) dX0_init_17 rfl rfl ?_
  refine x_iconst (pc := 18) (v := 0) dX0_init_18 (by decide) ?_
  refine x_put (pc := 19) dX0_init_19 kf_RX0_20 u5 rfl (Or.inl kb_0_1) ?_
  have F10 : FRS (r + 3) (up2 J3 r 1 0) (up2 S3 r 0 (some (r + 1))) L := F6.pI (by omega)
  have Q11 : OLD r sh sh3 I (up2 J3 r 1 0) R (up2 S3 r 0 (some (r + 1))) := Q7.pI (Nat.le_refl _)
  have h12 := h8.pI (c := r) (k := 1) (x := 0) (by omega)
  have g13 : (up2 J3 r 1 0) r 1 = 0 := up2_s
  refine x_aload_n (pc := 22) dX0_init_22 rfl rfl ?_
  refine x_iconst (pc := 23) (v := 0) dX0_init_23 (by decide) ?_
  refine x_put (pc := 24) dX0_init_24 kf_RX0_24 u5 rfl (Or.inl kb_0_2) ?_
  have F14 : FRS (r + 3) (up2 (up2 J3 r 1 0) r 2 0) (up2 S3 r 0 (some (r + 1))) L := F10.pI (by omega)
  have Q15 : OLD r sh sh3 I (up2 (up2 J3 r 1 0) r 2 0) R (up2 S3 r 0 (some (r + 1))) := Q11.pI (Nat.le_refl _)
  have h16 := h12.pI (c := r) (k := 2) (x := 0) (by omega)
  have g17 : (up2 (up2 J3 r 1 0) r 2 0) r 1 = 0 := (up2_k (by decide)).trans g13
  have g18 : (up2 (up2 J3 r 1 0) r 2 0) r 2 = 0 := up2_s
  refine x_aload_n (pc := 27) dX0_init_27 rfl rfl ?_
  refine x_iconst (pc := 28) (v := 0) dX0_init_28 (by decide) ?_
  refine x_put (pc := 29) dX0_init_29 kf_RX0_27 u5 rfl (Or.inl kb_0_3) ?_
  have F19 : FRS (r + 3) (up2 (up2 (up2 J3 r 1 0) r 2 0) r 3 0) (up2 S3 r 0 (some (r + 1))) L := F14.pI (by omega)
  have Q20 : OLD r sh sh3 I (up2 (up2 (up2 J3 r 1 0) r 2 0) r 3 0) R (up2 S3 r 0 (some (r + 1))) := Q15.pI (Nat.le_refl _)
  have h21 := h16.pI (c := r) (k := 3) (x := 0) (by omega)
  have g22 : (up2 (up2 (up2 J3 r 1 0) r 2 0) r 3 0) r 1 = 0 := (up2_k (by decide)).trans g17
  have g23 : (up2 (up2 (up2 J3 r 1 0) r 2 0) r 3 0) r 2 = 0 := (up2_k (by decide)).trans g18
  have g24 : (up2 (up2 (up2 J3 r 1 0) r 2 0) r 3 0) r 3 = 0 := up2_s
  refine x_aload_n (pc := 32) dX0_init_32 rfl rfl ?_
  refine x_iconst (pc := 33) (v := 0) dX0_init_33 (by decide) ?_
  refine x_put (pc := 34) dX0_init_34 kf_RX0_30 u5 rfl (Or.inl kb_0_4) ?_
  have F25 : FRS (r + 3) (up2 (up2 (up2 (up2 J3 r 1 0) r 2 0) r 3 0) r 4 0) (up2 S3 r 0 (some (r + 1))) L := F19.pI (by omega)
  have Q26 : OLD r sh sh3 I (up2 (up2 (up2 (up2 J3 r 1 0) r 2 0) r 3 0) r 4 0) R (up2 S3 r 0 (some (r + 1))) := Q20.pI (Nat.le_refl _)
  have h27 := h21.pI (c := r) (k := 4) (x := 0) (by omega)
  have g28 : (up2 (up2 (up2 (up2 J3 r 1 0) r 2 0) r 3 0) r 4 0) r 1 = 0 := (up2_k (by decide)).trans g22
  have g29 : (up2 (up2 (up2 (up2 J3 r 1 0) r 2 0) r 3 0) r 4 0) r 2 = 0 := (up2_k (by decide)).trans g23
  have g30 : (up2 (up2 (up2 (up2 J3 r 1 0) r 2 0) r 3 0) r 4 0) r 3 = 0 := (up2_k (by decide)).trans g24
  have g31 : (up2 (up2 (up2 (up2 J3 r 1 0) r 2 0) r 3 0) r 4 0) r 4 = 0 := up2_s
  refine x_return (pc := 37) dX0_init_37 rfl ⟨Nat.le_of_ble_eq_true rfl, Nat.le_of_ble_eq_true rfl⟩ ?_
  refine K _ _ _ (fun sh3 I3 R3 ag => ?_) Q26 F25
  obtain ⟨gs, gi, gr⟩ := ag r (Nat.le_refl _) (by omega)
  have yR0 := (congrFun gr 0).trans g9
  have yI1 := (congrFun gi 1).trans g28
  have yI2 := (congrFun gi 2).trans g29
  have yI3 := (congrFun gi 3).trans g30
  have yI4 := (congrFun gi 4).trans g31
  have ys := gs.trans u5
  have z0 := h27 sh3 I3 R3 (fun a p q => ag a (by omega) (by omega))
  exact ⟨ys, yR0, z0.1, yI1, z0.2⟩

set_option maxHeartbeats 4000000 in
set_option maxRecDepth 100000 in
theorem i_tape {T : xT} {n n2 : Nat} {sh : Nat → Nat × Nat} {I : xI} {R : xR} {L : xL} {P : xPost} {r : Nat} (hn : n = r + 1) (F : FRS n I R L) (h9 : n2 < 1000) (h2 : n2 = r + 2) (hs : sh r = (0, 8)) (K : ∀ (sh2 : Nat → Nat × Nat) (J : xI) (S : xR), RNG r (r + 2) (QTP r) sh2 J S → OLD r sh sh2 I J R S → FRS n2 J S L → P (n2, sh2, 1, 60) J S L none) : X T zX8_init 2 1 60 P 0 [(0, .ref r)] [] (n, sh, 0, 0) I R L := by
  subst hn
  subst h2
  have Q0 : OLD r sh sh I I R R := OLD.rf
  refine x_aload_n (pc := 0) dX8_init_0 rfl rfl ?_
  refine x_objInit (pc := 1) (by decide) kl_RX8_3 kw_obj.1 kw_obj.2 dX8_init_1 (Nat.le_of_ble_eq_true rfl) ?_
  refine x_aload_n (pc := 4) dX8_init_4 rfl rfl ?_
  refine x_bipush (pc := 5) (v := 60) dX8_init_5 (by decide) ?_
  refine x_newarrK (pc := 7) (t := 3) (len := 60) (ca1 := 1) (sa1 := 60) (n1 := (r + 2)) dX8_init_7 (Or.inr (Or.inr ⟨rfl, rfl⟩)) kr_long rfl (by omega) F (List.forall_mem_cons.mpr ⟨xvr_ok (by omega), fun _ h => absurd h List.not_mem_nil⟩) (List.forall_mem_cons.mpr ⟨xvr_ok (by omega), fun _ h => absurd h List.not_mem_nil⟩) rfl rfl rfl (by decide) (by decide) (fun sh1 a1 b1 => ?_)
  have u1_0 := (b1 _ (by omega)).trans hs
  have F1 := F.next (by omega)
  have Q2 := Q0.nw b1 (by omega)
  refine x_putrF (pc := 9) dX8_init_9 kf_RX8_9 rfl rfl u1_0 rfl ?_
  have F3 : FRS (r + 2) I (up2 R r 0 (some (r + 1))) L := F1.pS (by omega) (by omega)
  have Q4 : OLD r sh sh1 I I R (up2 R r 0 (some (r + 1))) := Q2.pR (Nat.le_refl _)
  have g5 : (up2 R r 0 (some (r + 1))) r 0 = (some (r + 1)) := up2_s
  refine x_aload_n (pc := 12) dX8_init_12 rfl rfl ?_
  refine x_iconst (pc := 13) (v := -1) dX8_init_13 (by decide) ?_
  refine x_put (pc := 14) dX8_init_14 kf_RX8_15 u1_0 rfl (Or.inl kb_8_1) ?_
  have F6 : FRS (r + 2) (up2 I r 1 (-1)) (up2 R r 0 (some (r + 1))) L := F3.pI (by omega)
  have Q7 : OLD r sh sh1 I (up2 I r 1 (-1)) R (up2 R r 0 (some (r + 1))) := Q4.pI (Nat.le_refl _)
  have g8 : (up2 I r 1 (-1)) r 1 = (-1) := up2_s
  refine x_aload_n (pc := 17) dX8_init_17 rfl rfl ?_
  refine x_iconst (pc := 18) (v := 0) dX8_init_18 (by decide) ?_
  refine x_put (pc := 19) dX8_init_19 kf_RX8_19 u1_0 rfl (Or.inl kb_8_2) ?_
  have F9 : FRS (r + 2) (up2 (up2 I r 1 (-1)) r 2 0) (up2 R r 0 (some (r + 1))) L := F6.pI (by omega)
  have Q10 : OLD r sh sh1 I (up2 (up2 I r 1 (-1)) r 2 0) R (up2 R r 0 (some (r + 1))) := Q7.pI (Nat.le_refl _)
  have g11 : (up2 (up2 I r 1 (-1)) r 2 0) r 1 = (-1) := (up2_k (by decide)).trans g8
  have g12 : (up2 (up2 I r 1 (-1)) r 2 0) r 2 = 0 := up2_s
  refine x_return (pc := 22) dX8_init_22 rfl ⟨Nat.le_of_ble_eq_true rfl, Nat.le_of_ble_eq_true rfl⟩ ?_
  refine K _ _ _ (fun sh3 I3 R3 ag => ?_) Q10 F9
  obtain ⟨gs, gi, gr⟩ := ag r (Nat.le_refl _) (by omega)
  have yR0 := (congrFun gr 0).trans g5
  have yI1 := (congrFun gi 1).trans g11
  have yI2 := (congrFun gi 2).trans g12
  have ys := gs.trans u1_0
  have ysh1 := (ag (r + 1) (by omega) (by omega)).1.trans a1
  exact ⟨ys, yR0, ysh1, yI1, yI2⟩

