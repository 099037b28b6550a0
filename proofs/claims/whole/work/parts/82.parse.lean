/-! ===== a RING as text: what is read, and the reference's machine ===== -/
/-- what is read: the class's parts, the reference's signs, what it comes to -/
abbrev xCE : Type := List (Nat × Nat × Nat) × List Int32 × (Nat → Nat → Nat → Nat → Nat → Bool)
abbrev xCQ (α : Type) : Type := Nat × Option α
def plL (l : Nat) : Nat := if l = 110 then 0 else if l = 104 then 1 else if l = 98 then 2 else if l = 99 then 3 else 4
def cmpS (s v n : Nat) : Bool := if s = 60 then decide (v < n) else if s = 61 then decide (v = n) else decide (n < v)
def eT (l s n : Nat) : xCE := ([(l, s, n)], [nI (1000 * plL l + 100 * (s - 60) + n)], fun a1 a2 a3 a4 a5 => cmpS s (fct a1 a2 a3 a4 a5 (plL l)) n)
def eN (j : Nat) (e : xCE) : xCE := (e.1 ++ (if j % 2 = 1 then [(33, 0, 0)] else []), e.2.1 ++ List.replicate j (-33), fun a1 a2 a3 a4 a5 => if j % 2 = 1 then !(e.2.2 a1 a2 a3 a4 a5) else e.2.2 a1 a2 a3 a4 a5)
def eA (a b : xCE) : xCE := (a.1 ++ b.1 ++ [(38, 0, 0)], a.2.1 ++ b.2.1 ++ [-nI 38], fun a1 a2 a3 a4 a5 => a.2.2 a1 a2 a3 a4 a5 && b.2.2 a1 a2 a3 a4 a5)
def eO (a b : xCE) : xCE := (a.1 ++ b.1 ++ [(124, 0, 0)], a.2.1 ++ b.2.1 ++ [-nI 124], fun a1 a2 a3 a4 a5 => a.2.2 a1 a2 a3 a4 a5 || b.2.2 a1 a2 a3 a4 a5)
abbrev isDg (c : Nat) : Prop := 48 ≤ c ∧ c ≤ 57
abbrev isLt (c : Nat) : Prop := c = 110 ∨ c = 104 ∨ c = 98 ∨ c = 99 ∨ c = 116
abbrev isSg (c : Nat) : Prop := 60 ≤ c ∧ c ≤ 62
def numF (nx : Nat → Nat) (p : Nat) : Option (Nat × Nat) := if isDg (nx p) then (if isDg (nx (p + 1)) then some (p + 2, 10 * (nx p - 48) + (nx (p + 1) - 48)) else some (p + 1, nx p - 48)) else none
def tstF (nx : Nat → Nat) (p : Nat) : xCQ xCE := if isLt (nx p) then (if isSg (nx (p + 1)) then (match numF nx (p + 2) with
    | none => (p + 2, none)
    | some r => (r.1, some (eT (nx p) (nx (p + 1)) r.2))) else (p + 1, none)) else (p, none)
def BGs (nx : Nat → Nat) (w p j : Nat) : Prop := w + j ≤ 4 ∧ (∀ i, i < j → nx (p + i) = 33) ∧ (w + j = 4 ∨ nx (p + j) ≠ 33)
/-- 0: F; 1: T; 2: T's end; 3: E; 4: E's end -/
def PDc (nx : Nat → Nat) (M : Nat → Nat → Nat → Option xCE → xCQ xCE → Prop) : Prop := (∀ {w p j q : Nat} {e : xCE}, BGs nx w p j → (w + j = 4 ∨ nx (p + j) ≠ 40) → tstF nx (p + j) = (q, some e) → M 0 w p none (q, some (eN j e))) ∧
  (∀ {w p j q : Nat}, BGs nx w p j → (w + j = 4 ∨ nx (p + j) ≠ 40) → tstF nx (p + j) = (q, none) → M 0 w p none (q, none)) ∧
  (∀ {w p j q : Nat}, BGs nx w p j → w + j < 4 → nx (p + j) = 40 → M 3 (w + j + 1) (p + j + 1) none (q, none) → M 0 w p none (q, none)) ∧
  (∀ {w p j q : Nat} {e : xCE}, BGs nx w p j → w + j < 4 → nx (p + j) = 40 → M 3 (w + j + 1) (p + j + 1) none (q, some e) → nx q ≠ 41 → M 0 w p none (q, none)) ∧
  (∀ {w p j q : Nat} {e : xCE}, BGs nx w p j → w + j < 4 → nx (p + j) = 40 → M 3 (w + j + 1) (p + j + 1) none (q, some e) → nx q = 41 → M 0 w p none ((q + 1), some (eN j e))) ∧
  (∀ {w p q : Nat}, M 0 w p none (q, none) → M 1 w p none (q, none)) ∧
  (∀ {w p q : Nat} {e : xCE} {r : xCQ xCE}, M 0 w p none (q, some e) → M 2 w q (some e) r → M 1 w p none r) ∧
  (∀ {w p : Nat} {e : xCE}, nx p ≠ 38 → M 2 w p (some e) (p, some e)) ∧
  (∀ {w p q : Nat} {e : xCE}, nx p = 38 → M 0 w (p + 1) none (q, none) → M 2 w p (some e) (q, none)) ∧
  (∀ {w p q : Nat} {e e' : xCE} {r : xCQ xCE}, nx p = 38 → M 0 w (p + 1) none (q, some e') → M 2 w q (some (eA e e')) r → M 2 w p (some e) r) ∧
  (∀ {w p q : Nat}, M 1 w p none (q, none) → M 3 w p none (q, none)) ∧
  (∀ {w p q : Nat} {e : xCE} {r : xCQ xCE}, M 1 w p none (q, some e) → M 4 w q (some e) r → M 3 w p none r) ∧
  (∀ {w p : Nat} {e : xCE}, nx p ≠ 38 → nx p ≠ 124 → M 4 w p (some e) (p, some e)) ∧
  (∀ {w p q : Nat} {e : xCE}, nx p = 124 → M 1 w (p + 1) none (q, none) → M 4 w p (some e) (q, none)) ∧
  (∀ {w p q : Nat} {e e' : xCE} {r : xCQ xCE}, nx p = 124 → M 1 w (p + 1) none (q, some e') → M 4 w q (some (eO e e')) r → M 4 w p (some e) r)
def PD (nx : Nat → Nat) (k w p : Nat) (a : Option xCE) (r : xCQ xCE) : Prop := ∀ M : Nat → Nat → Nat → Option xCE → xCQ xCE → Prop, PDc nx M → M k w p a r
theorem PD.tok {nx : Nat → Nat} {w p j q : Nat} {e : xCE} (h0 : BGs nx w p j) (h1 : (w + j = 4 ∨ nx (p + j) ≠ 40)) (h2 : tstF nx (p + j) = (q, some e)) : PD nx 0 w p none (q, some (eN j e)) := fun M hM => hM.1 h0 h1 h2
theorem PD.tbad {nx : Nat → Nat} {w p j q : Nat} (h0 : BGs nx w p j) (h1 : (w + j = 4 ∨ nx (p + j) ≠ 40)) (h2 : tstF nx (p + j) = (q, none)) : PD nx 0 w p none (q, none) := fun M hM => hM.2.1 h0 h1 h2
theorem PD.pbad {nx : Nat → Nat} {w p j q : Nat} (h0 : BGs nx w p j) (h1 : w + j < 4) (h2 : nx (p + j) = 40) (h3 : PD nx 3 (w + j + 1) (p + j + 1) none (q, none)) : PD nx 0 w p none (q, none) := fun M hM => hM.2.2.1 h0 h1 h2 (h3 M hM)
theorem PD.popen {nx : Nat → Nat} {w p j q : Nat} {e : xCE} (h0 : BGs nx w p j) (h1 : w + j < 4) (h2 : nx (p + j) = 40) (h3 : PD nx 3 (w + j + 1) (p + j + 1) none (q, some e)) (h4 : nx q ≠ 41) : PD nx 0 w p none (q, none) := fun M hM => hM.2.2.2.1 h0 h1 h2 (h3 M hM) h4
theorem PD.pok {nx : Nat → Nat} {w p j q : Nat} {e : xCE} (h0 : BGs nx w p j) (h1 : w + j < 4) (h2 : nx (p + j) = 40) (h3 : PD nx 3 (w + j + 1) (p + j + 1) none (q, some e)) (h4 : nx q = 41) : PD nx 0 w p none ((q + 1), some (eN j e)) := fun M hM => hM.2.2.2.2.1 h0 h1 h2 (h3 M hM) h4
theorem PD.Tbad {nx : Nat → Nat} {w p q : Nat} (h0 : PD nx 0 w p none (q, none)) : PD nx 1 w p none (q, none) := fun M hM => hM.2.2.2.2.2.1 (h0 M hM)
theorem PD.Tgo {nx : Nat → Nat} {w p q : Nat} {e : xCE} {r : xCQ xCE} (h0 : PD nx 0 w p none (q, some e)) (h1 : PD nx 2 w q (some e) r) : PD nx 1 w p none r := fun M hM => hM.2.2.2.2.2.2.1 (h0 M hM) (h1 M hM)
theorem PD.Lend {nx : Nat → Nat} {w p : Nat} {e : xCE} (h0 : nx p ≠ 38) : PD nx 2 w p (some e) (p, some e) := fun M hM => hM.2.2.2.2.2.2.2.1 h0
theorem PD.Lbad {nx : Nat → Nat} {w p q : Nat} {e : xCE} (h0 : nx p = 38) (h1 : PD nx 0 w (p + 1) none (q, none)) : PD nx 2 w p (some e) (q, none) := fun M hM => hM.2.2.2.2.2.2.2.2.1 h0 (h1 M hM)
theorem PD.Lgo {nx : Nat → Nat} {w p q : Nat} {e e' : xCE} {r : xCQ xCE} (h0 : nx p = 38) (h1 : PD nx 0 w (p + 1) none (q, some e')) (h2 : PD nx 2 w q (some (eA e e')) r) : PD nx 2 w p (some e) r := fun M hM => hM.2.2.2.2.2.2.2.2.2.1 h0 (h1 M hM) (h2 M hM)
theorem PD.Ebad {nx : Nat → Nat} {w p q : Nat} (h0 : PD nx 1 w p none (q, none)) : PD nx 3 w p none (q, none) := fun M hM => hM.2.2.2.2.2.2.2.2.2.2.1 (h0 M hM)
theorem PD.Ego {nx : Nat → Nat} {w p q : Nat} {e : xCE} {r : xCQ xCE} (h0 : PD nx 1 w p none (q, some e)) (h1 : PD nx 4 w q (some e) r) : PD nx 3 w p none r := fun M hM => hM.2.2.2.2.2.2.2.2.2.2.2.1 (h0 M hM) (h1 M hM)
theorem PD.Mend {nx : Nat → Nat} {w p : Nat} {e : xCE} (h0 : nx p ≠ 38) (h1 : nx p ≠ 124) : PD nx 4 w p (some e) (p, some e) := fun M hM => hM.2.2.2.2.2.2.2.2.2.2.2.2.1 h0 h1
theorem PD.Mbad {nx : Nat → Nat} {w p q : Nat} {e : xCE} (h0 : nx p = 124) (h1 : PD nx 1 w (p + 1) none (q, none)) : PD nx 4 w p (some e) (q, none) := fun M hM => hM.2.2.2.2.2.2.2.2.2.2.2.2.2.1 h0 (h1 M hM)
theorem PD.Mgo {nx : Nat → Nat} {w p q : Nat} {e e' : xCE} {r : xCQ xCE} (h0 : nx p = 124) (h1 : PD nx 1 w (p + 1) none (q, some e')) (h2 : PD nx 4 w q (some (eO e e')) r) : PD nx 4 w p (some e) r := fun M hM => hM.2.2.2.2.2.2.2.2.2.2.2.2.2.2 h0 (h1 M hM) (h2 M hM)
def whN : List Nat → Nat
  | [] => 0
  | c :: S => if c = 33 then whN S + 1 else 0
def seN (b : Nat) : List Nat → Nat
  | [] => 0
  | c :: S => if c = 38 ∨ (c = 124 ∧ b ≠ 38) then seN b S + 1 else 0
def emS (b : Nat) (S : List Nat) : List Int32 := (S.take (seN b S)).map (fun c => -nI c)
abbrev xCU : Type := Nat × Bool × List Nat × Nat × List Int32
def uStep (nx : Nat → Nat) (u : xCU) : Sum xCU (xCQ (List Int32)) :=
  if u.2.1 = true then
    if nx u.1 = 33 ∨ nx u.1 = 40 then (if u.2.2.2.1 = 4 then .inr (u.1, none) else .inl (u.1 + 1, true, nx u.1 :: u.2.2.1, u.2.2.2.1 + 1, u.2.2.2.2))
    else match tstF nx u.1 with
      | (q, none) => .inr (q, none)
      | (q, some e) => .inl (q, false, u.2.2.1.drop (whN u.2.2.1), u.2.2.2.1 - whN u.2.2.1, u.2.2.2.2 ++ e.2.1 ++ List.replicate (whN u.2.2.1) (-33))
  else if nx u.1 = 38 ∨ nx u.1 = 124 then .inl (u.1 + 1, true, nx u.1 :: u.2.2.1.drop (seN (nx u.1) u.2.2.1), u.2.2.2.1, u.2.2.2.2 ++ emS (nx u.1) u.2.2.1)
  else match u.2.2.1.drop (seN 124 u.2.2.1) with
    | [] => .inr (u.1, some (u.2.2.2.2 ++ emS 124 u.2.2.1))
    | _ :: S' => if nx u.1 = 41 then .inl (u.1 + 1, false, S'.drop (whN S'), u.2.2.2.1 - 1 - whN S', u.2.2.2.2 ++ emS 124 u.2.2.1 ++ List.replicate (whN S') (-33)) else .inr (u.1, none)
def uRun (nx : Nat → Nat) : Nat → xCU → xCQ (List Int32) → Prop
  | 0, _, _ => False
  | n + 1, u, r => match uStep nx u with
    | .inr r' => r' = r
    | .inl u' => uRun nx n u' r
def Run (nx : Nat → Nat) (p : Nat) (w : Bool) (S : List Nat) (o : Nat) (s : List Int32) (r : xCQ (List Int32)) : Prop := ∃ n, uRun nx n (p, w, S, o, s) r
theorem Run.l {nx : Nat → Nat} {p p' o o' : Nat} {w w' : Bool} {S S' : List Nat} {s s' : List Int32} {r : xCQ (List Int32)} (e : uStep nx (p, w, S, o, s) = .inl (p', w', S', o', s')) (h : Run nx p' w' S' o' s' r) : Run nx p w S o s r := by
  obtain ⟨n, hn⟩ := h
  refine ⟨n + 1, ?_⟩
  show (match uStep nx (p, w, S, o, s) with | .inr r' => r' = r | .inl u' => uRun nx n u' r)
  rw [e]
  exact hn
theorem Run.r {nx : Nat → Nat} {p o : Nat} {w : Bool} {S : List Nat} {s : List Int32} {r : xCQ (List Int32)} (e : uStep nx (p, w, S, o, s) = .inr r) : Run nx p w S o s r := by
  refine ⟨1, ?_⟩
  show (match uStep nx (p, w, S, o, s) with | .inr r' => r' = r | .inl u' => uRun nx 0 u' r)
  rw [e]
theorem Run.same {nx : Nat → Nat} {p p' o o' : Nat} {w w' : Bool} {S S' : List Nat} {s s' : List Int32} {r : xCQ (List Int32)} (e : uStep nx (p, w, S, o, s) = uStep nx (p', w', S', o', s')) (h : Run nx p' w' S' o' s' r) : Run nx p w S o s r := by
  obtain ⟨n, hn⟩ := h
  cases n with
  | zero => exact hn.elim
  | succ n =>
    refine ⟨n + 1, ?_⟩
    have hn : (match uStep nx (p', w', S', o', s') with | .inr r' => r' = r | .inl u' => uRun nx n u' r) := hn
    show (match uStep nx (p, w, S, o, s) with | .inr r' => r' = r | .inl u' => uRun nx n u' r)
    rw [e]
    exact hn
section RUNS
variable {nx : Nat → Nat} {p q o c : Nat} {S S' : List Nat} {s : List Int32} {r : xCQ (List Int32)} {e : xCE}
theorem Run.push (h : nx p = 33 ∨ nx p = 40) (ho : o < 4) (k : Run nx (p + 1) true (nx p :: S) (o + 1) s r) : Run nx p true S o s r := Run.l (by
  show (if true = true then (if nx p = 33 ∨ nx p = 40 then (if o = 4 then _ else _) else _) else _) = _
  rw [if_pos rfl, if_pos h, if_neg (by omega)]) k
theorem Run.full (h : nx p = 33 ∨ nx p = 40) : Run nx p true S 4 s (p, none) := Run.r (by
  show (if true = true then (if nx p = 33 ∨ nx p = 40 then (if 4 = 4 then _ else _) else _) else _) = _
  rw [if_pos rfl, if_pos h, if_pos rfl])
theorem Run.test (h : nx p ≠ 33) (h' : nx p ≠ 40) (ht : tstF nx p = (q, some e)) (k : Run nx q false (S.drop (whN S)) (o - whN S) (s ++ e.2.1 ++ List.replicate (whN S) (-33)) r) : Run nx p true S o s r := Run.l (by
  unfold uStep
  rw [if_pos rfl, if_neg (show ¬ (nx p = 33 ∨ nx p = 40) from fun z => z.elim h h'), show tstF nx (p, true, S, o, s).1 = (q, some e) from ht]) k
theorem Run.tbad (h : nx p ≠ 33) (h' : nx p ≠ 40) (ht : tstF nx p = (q, none)) : Run nx p true S o s (q, none) := Run.r (by
  unfold uStep
  rw [if_pos rfl, if_neg (show ¬ (nx p = 33 ∨ nx p = 40) from fun z => z.elim h h'), show tstF nx (p, true, S, o, s).1 = (q, none) from ht])
theorem Run.op (h : nx p = 38 ∨ nx p = 124) (k : Run nx (p + 1) true (nx p :: S.drop (seN (nx p) S)) o (s ++ emS (nx p) S) r) : Run nx p false S o s r := Run.l (by
  unfold uStep
  rw [if_neg (show ¬ false = true by decide), if_pos (show nx p = 38 ∨ nx p = 124 from h)]) k
theorem Run.done (h : nx p ≠ 38) (h' : nx p ≠ 124) (hd : S.drop (seN 124 S) = []) : Run nx p false S o s (p, some (s ++ emS 124 S)) := Run.r (by
  unfold uStep
  rw [if_neg (show ¬ false = true by decide), if_neg (show ¬ (nx p = 38 ∨ nx p = 124) from fun z => z.elim h h'), show (p, false, S, o, s).2.2.1.drop (seN 124 (p, false, S, o, s).2.2.1) = [] from hd])
theorem Run.stop (h : nx p ≠ 38) (h' : nx p ≠ 124) (hd : S.drop (seN 124 S) = c :: S') (hn : nx p ≠ 41) : Run nx p false S o s (p, none) := Run.r (by
  unfold uStep
  rw [if_neg (show ¬ false = true by decide), if_neg (show ¬ (nx p = 38 ∨ nx p = 124) from fun z => z.elim h h'), show (p, false, S, o, s).2.2.1.drop (seN 124 (p, false, S, o, s).2.2.1) = c :: S' from hd]
  exact if_neg hn)
theorem Run.close (h : nx p ≠ 38) (h' : nx p ≠ 124) (hd : S.drop (seN 124 S) = c :: S') (hn : nx p = 41) (k : Run nx (p + 1) false (S'.drop (whN S')) (o - 1 - whN S') (s ++ emS 124 S ++ List.replicate (whN S') (-33)) r) : Run nx p false S o s r := Run.l (by
  unfold uStep
  rw [if_neg (show ¬ false = true by decide), if_neg (show ¬ (nx p = 38 ∨ nx p = 124) from fun z => z.elim h h'), show (p, false, S, o, s).2.2.1.drop (seN 124 (p, false, S, o, s).2.2.1) = c :: S' from hd]
  exact if_pos hn) k
end RUNS
theorem seN_p {b c : Nat} {S : List Nat} (h : c = 38 ∨ (c = 124 ∧ b ≠ 38)) : seN b (c :: S) = seN b S + 1 := if_pos h
theorem seN_z {b c : Nat} {S : List Nat} (h : ¬ (c = 38 ∨ (c = 124 ∧ b ≠ 38))) : seN b (c :: S) = 0 := if_neg h
theorem emS_p {b c : Nat} {S : List Nat} (h : c = 38 ∨ (c = 124 ∧ b ≠ 38)) : emS b (c :: S) = -nI c :: emS b S := by
  unfold emS
  rw [seN_p h]
  rfl
theorem app1 {s t : List Int32} {x : Int32} : s ++ [x] ++ t = s ++ x :: t := by rw [List.append_assoc]; rfl
/-- a sign that waits is settled first -/
theorem Run.absorb {nx : Nat → Nat} {p o c : Nat} {S : List Nat} {s : List Int32} {r : xCQ (List Int32)} (hc : c = 38 ∨ (c = 124 ∧ nx p ≠ 38)) (h : Run nx p false S o (s ++ [-nI c]) r) : Run nx p false (c :: S) o s r := by
  have h1 : c = 38 ∨ (c = 124 ∧ (124 : Nat) ≠ 38) := hc.imp id (fun z => ⟨z.1, by decide⟩)
  refine Run.same ?_ h
  unfold uStep
  rw [if_neg (show ¬ false = true by decide), if_neg (show ¬ false = true by decide)]
  show (if nx p = 38 ∨ nx p = 124 then Sum.inl (p + 1, true, nx p :: (c :: S).drop (seN (nx p) (c :: S)), o, s ++ emS (nx p) (c :: S)) else match (c :: S).drop (seN 124 (c :: S)) with
    | [] => Sum.inr (p, some (s ++ emS 124 (c :: S)))
    | _ :: S' => if nx p = 41 then Sum.inl (p + 1, false, S'.drop (whN S'), o - 1 - whN S', s ++ emS 124 (c :: S) ++ List.replicate (whN S') (-33)) else Sum.inr (p, none)) = _
  rw [seN_p hc, emS_p hc, seN_p h1, emS_p h1, List.drop_succ_cons, List.drop_succ_cons, ← app1 (s := s) (x := -nI c) (t := emS (nx p) S), ← app1 (s := s) (x := -nI c) (t := emS 124 S)]
/-- the sign on top is none of these -/
def topN (S : List Nat) (c : Nat) : Prop := ∀ x ∈ S.head?, x ≠ c
theorem topN_c {S : List Nat} {c x : Nat} (h : x ≠ c) : topN (x :: S) c := fun y hy => by
  have : y = x := by simpa using hy.symm
  rw [this]
  exact h
theorem whN_0 {S : List Nat} (h : topN S 33) : whN S = 0 := by
  cases S with
  | nil => rfl
  | cons c S => exact if_neg (h c rfl)
theorem whN_rep {S : List Nat} (h : topN S 33) : ∀ j, whN (List.replicate j 33 ++ S) = j
  | 0 => whN_0 h
  | j + 1 => by
    show (if (33 : Nat) = 33 then whN (List.replicate j 33 ++ S) + 1 else 0) = j + 1
    rw [if_pos rfl, whN_rep h j]
theorem drop_rep {S : List Nat} : ∀ j, (List.replicate j 33 ++ S).drop j = S
  | 0 => rfl
  | j + 1 => drop_rep j
theorem seN_0 {b : Nat} {S : List Nat} (h : topN S 38) (h' : topN S 124 ∨ b = 38) : seN b S = 0 := by
  cases S with
  | nil => rfl
  | cons c S => exact if_neg (fun q => q.elim (h c rfl) (fun z => h'.elim (fun y => y c rfl z.1) z.2))
theorem emS_0 {b : Nat} {S : List Nat} (h : seN b S = 0) : emS b S = [] := by
  unfold emS
  rw [h]
  rfl
/-- the signs before what they turn -/
theorem Run.bangs {nx : Nat → Nat} {w : Nat} {s : List Int32} {r : xCQ (List Int32)} : ∀ (j p : Nat) (S : List Nat), w + j ≤ 4 → (∀ i, i < j → nx (p + i) = 33) → ∀ w', w' = w → Run nx (p + j) true (List.replicate j 33 ++ S) (w + j) s r → Run nx p true S w' s r
  | 0, p, S, _, _, w', e, h => by rw [e]; exact h
  | j + 1, p, S, hw, hb, w', e, h => by
    have h0 := hb 0 (by omega)
    rw [Nat.add_zero] at h0
    refine Run.push (Or.inl h0) (by omega) ?_
    rw [h0, e]
    refine Run.bangs (w := w + 1) j (p + 1) (33 :: S) (by omega) (fun i hi => by rw [show p + 1 + i = p + (i + 1) by omega]; exact hb (i + 1) (by omega)) (w + 1) rfl ?_
    have e2 : List.replicate j 33 ++ 33 :: S = List.replicate (j + 1) 33 ++ S := by
      rw [show List.replicate (j + 1) 33 = List.replicate j 33 ++ [33] from List.replicate_succ', List.append_assoc]
      rfl
    rw [e2, show p + 1 + j = p + (j + 1) by omega, show w + 1 + j = w + (j + 1) by omega]
    exact h
theorem tstF_lt {nx : Nat → Nat} {p q : Nat} {e : xCE} (h : tstF nx p = (q, some e)) : isLt (nx p) := by
  unfold tstF at h
  by_cases c : isLt (nx p)
  · exact c
  · rw [if_neg c] at h
    cases h
theorem tstF_no {nx : Nat → Nat} {p q : Nat} (hn : ¬ isLt (nx p)) (h : tstF nx p = (q, none)) : q = p := by
  unfold tstF at h
  rw [if_neg hn] at h
  cases h
  rfl
def MOT (nx : Nat → Nat) : Nat → Nat → Nat → Option xCE → xCQ xCE → Prop
  | 0, w, p, _, r => ∀ S s, topN S 33 → match r with
    | (q, some e) => ∀ R, Run nx q false S w (s ++ e.2.1) R → Run nx p true S w s R
    | (q, none) => Run nx p true S w s (q, none)
  | 1, w, p, _, r => ∀ S s, topN S 33 → topN S 38 → match r with
    | (q, some e) => nx q ≠ 38 ∧ ∀ R, Run nx q false S w (s ++ e.2.1) R → Run nx p true S w s R
    | (q, none) => Run nx p true S w s (q, none)
  | 2, w, p, a, r => ∀ S s e0, a = some e0 → topN S 33 → topN S 38 → match r with
    | (q, some e) => nx q ≠ 38 ∧ ∀ R, Run nx q false S w (s ++ e.2.1) R → Run nx p false S w (s ++ e0.2.1) R
    | (q, none) => Run nx p false S w (s ++ e0.2.1) (q, none)
  | 3, w, p, _, r => ∀ S s, topN S 33 → topN S 38 → topN S 124 → match r with
    | (q, some e) => (nx q ≠ 38 ∧ nx q ≠ 124) ∧ ∀ R, Run nx q false S w (s ++ e.2.1) R → Run nx p true S w s R
    | (q, none) => Run nx p true S w s (q, none)
  | _, w, p, a, r => ∀ S s e0, a = some e0 → topN S 33 → topN S 38 → topN S 124 → match r with
    | (q, some e) => (nx q ≠ 38 ∧ nx q ≠ 124) ∧ ∀ R, Run nx q false S w (s ++ e.2.1) R → Run nx p false S w (s ++ e0.2.1) R
    | (q, none) => Run nx p false S w (s ++ e0.2.1) (q, none)
theorem pd_run {nx : Nat → Nat} {k w p : Nat} {a : Option xCE} {r : xCQ xCE} (h : PD nx k w p a r) : MOT nx k w p a r := by
  refine h (MOT nx) ⟨?_, ?_, ?_, ?_, ?_, ?_, ?_, ?_, ?_, ?_, ?_, ?_, ?_, ?_, ?_⟩
  · intro w p j q e hb h4 ht
    intro S s hS R hR
    have hl := tstF_lt ht
    refine Run.bangs j p S hb.1 hb.2.1 w rfl (Run.test (by intro q; rw [q] at hl; revert hl; decide) (by intro q; rw [q] at hl; revert hl; decide) ht ?_)
    rw [whN_rep hS, drop_rep, Nat.add_sub_cancel, List.append_assoc]
    exact hR
  · intro w p j q hb h4 ht
    intro S s hS
    refine Run.bangs j p S hb.1 hb.2.1 w rfl ?_
    by_cases z : nx (p + j) = 33 ∨ nx (p + j) = 40
    · have e4 : w + j = 4 := z.elim (fun y => hb.2.2.resolve_right (fun n => n y)) (fun y => h4.resolve_right (fun n => n y))
      have hn : ¬ isLt (nx (p + j)) := by rcases z with y | y <;> rw [y] <;> decide
      rw [tstF_no hn ht, e4]
      exact Run.full z
    · exact Run.tbad (fun y => z (Or.inl y)) (fun y => z (Or.inr y)) ht
  · intro w p j q hb h4 ho ih
    intro S s hS
    refine Run.bangs j p S hb.1 hb.2.1 w rfl (Run.push (Or.inr ho) h4 ?_)
    rw [ho]
    exact ih (40 :: (List.replicate j 33 ++ S)) s (topN_c (by decide)) (topN_c (by decide)) (topN_c (by decide))
  · intro w p j q e hb h4 ho ih hn
    intro S s hS
    have ih' := ih (40 :: (List.replicate j 33 ++ S)) s (topN_c (by decide)) (topN_c (by decide)) (topN_c (by decide))
    refine Run.bangs j p S hb.1 hb.2.1 w rfl (Run.push (Or.inr ho) h4 ?_)
    rw [ho]
    refine ih'.2 _ (Run.stop ih'.1.1 ih'.1.2 (c := 40) (S' := List.replicate j 33 ++ S) (by rw [show seN 124 (40 :: (List.replicate j 33 ++ S)) = 0 from seN_z (by decide)]; rfl) hn)
  · intro w p j q e hb h4 ho ih hn
    intro S s hS R hR
    have ih' := ih (40 :: (List.replicate j 33 ++ S)) s (topN_c (by decide)) (topN_c (by decide)) (topN_c (by decide))
    refine Run.bangs j p S hb.1 hb.2.1 w rfl (Run.push (Or.inr ho) h4 ?_)
    rw [ho]
    have z0 : seN 124 (40 :: (List.replicate j 33 ++ S)) = 0 := seN_z (by decide)
    refine ih'.2 _ (Run.close ih'.1.1 ih'.1.2 (c := 40) (S' := List.replicate j 33 ++ S) (by rw [z0]; rfl) hn ?_)
    rw [emS_0 z0, whN_rep hS, drop_rep, show w + j + 1 - 1 - j = w by omega, List.append_nil, List.append_assoc]
    exact hR
  · intro w p q ih
    exact fun S s h1 _ => ih S s h1
  · intro w p q e r ih1 ih2
    intro S s h1 h2
    have i1 := ih1 S s h1
    have i2 := ih2 S s e rfl h1 h2
    obtain ⟨q2, r2⟩ := r
    cases r2 with
    | some e2 => exact ⟨i2.1, fun R hR => i1 R (i2.2 R hR)⟩
    | none => exact i1 _ i2
  · intro w p e hn
    intro S s e0 ea h1 h2
    cases ea
    exact ⟨hn, fun R hR => hR⟩
  · intro w p q e hn ih
    intro S s e0 ea h1 h2
    cases ea
    refine Run.op (Or.inl hn) ?_
    rw [hn]
    have z0 : seN 38 S = 0 := seN_0 h2 (Or.inr rfl)
    rw [z0, emS_0 z0, List.append_nil]
    exact ih (38 :: S) _ (topN_c (by decide))
  · intro w p q e e' r hn ih1 ih2
    intro S s e0 ea h1 h2
    cases ea
    have z0 : seN 38 S = 0 := seN_0 h2 (Or.inr rfl)
    have i1 := ih1 (38 :: S) (s ++ e.2.1) (topN_c (by decide))
    have i2 := ih2 S s _ rfl h1 h2
    have e3 : s ++ (eA e e').2.1 = s ++ e.2.1 ++ e'.2.1 ++ [-nI 38] := by
      show s ++ (e.2.1 ++ e'.2.1 ++ [-nI 38]) = _
      rw [← List.append_assoc, ← List.append_assoc]
    have go : ∀ R, Run nx q false S w (s ++ (eA e e').2.1) R → Run nx p false S w (s ++ e.2.1) R := fun R hR => by
      refine Run.op (Or.inl hn) ?_
      rw [hn, z0, emS_0 z0, List.append_nil]
      rw [e3] at hR
      exact i1 R (Run.absorb (Or.inl rfl) hR)
    obtain ⟨q2, r2⟩ := r
    cases r2 with
    | some e2 => exact ⟨i2.1, fun R hR => go R (i2.2 R hR)⟩
    | none => exact go _ i2
  · intro w p q ih
    exact fun S s h1 h2 _ => ih S s h1 h2
  · intro w p q e r ih1 ih2
    intro S s h1 h2 h3
    have i1 := ih1 S s h1 h2
    have i2 := ih2 S s e rfl h1 h2 h3
    obtain ⟨q2, r2⟩ := r
    cases r2 with
    | some e2 => exact ⟨i2.1, fun R hR => i1.2 R (i2.2 R hR)⟩
    | none => exact i1.2 _ i2
  · intro w p e hn hm
    intro S s e0 ea h1 h2 h3
    cases ea
    exact ⟨⟨hn, hm⟩, fun R hR => hR⟩
  · intro w p q e hn ih
    intro S s e0 ea h1 h2 h3
    cases ea
    refine Run.op (Or.inr hn) ?_
    rw [hn]
    have z0 : seN 124 S = 0 := seN_0 h2 (Or.inl h3)
    rw [z0, emS_0 z0, List.append_nil]
    exact ih (124 :: S) _ (topN_c (by decide)) (topN_c (by decide))
  · intro w p q e e' r hn ih1 ih2
    intro S s e0 ea h1 h2 h3
    cases ea
    have z0 : seN 124 S = 0 := seN_0 h2 (Or.inl h3)
    have i1 := ih1 (124 :: S) (s ++ e.2.1) (topN_c (by decide)) (topN_c (by decide))
    have i2 := ih2 S s _ rfl h1 h2 h3
    have e3 : s ++ (eO e e').2.1 = s ++ e.2.1 ++ e'.2.1 ++ [-nI 124] := by
      show s ++ (e.2.1 ++ e'.2.1 ++ [-nI 124]) = _
      rw [← List.append_assoc, ← List.append_assoc]
    have go : ∀ R, Run nx q false S w (s ++ (eO e e').2.1) R → Run nx p false S w (s ++ e.2.1) R := fun R hR => by
      refine Run.op (Or.inr hn) ?_
      rw [hn, z0, emS_0 z0, List.append_nil]
      rw [e3] at hR
      exact i1.2 R (Run.absorb (Or.inr ⟨rfl, i1.1⟩) hR)
    obtain ⟨q2, r2⟩ := r
    cases r2 with
    | some e2 => exact ⟨i2.1, fun R hR => go R (i2.2 R hR)⟩
    | none => exact go _ i2
/-- E as a whole -/
theorem pd_E {nx : Nat → Nat} {p : Nat} {r : xCQ xCE} (h : PD nx 3 0 p none r) (s : List Int32) : Run nx p true [] 0 s (r.1, r.2.map (fun e => s ++ e.2.1)) := by
  have nh : ∀ c, topN [] c := fun c x hx => by cases hx
  have m := pd_run h [] s (nh 33) (nh 38) (nh 124)
  obtain ⟨q, r2⟩ := r
  cases r2 with
  | none => exact m
  | some e =>
    refine m.2 _ ?_
    have := Run.done (nx := nx) (p := q) (o := 0) (S := []) (s := s ++ e.2.1) m.1.1 m.1.2 rfl
    rw [emS_0 rfl, List.append_nil] at this
    exact this

