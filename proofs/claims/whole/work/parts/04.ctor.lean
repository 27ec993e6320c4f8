def sTold (a : Nat) : List Sh := [(5, 8, [some (a + 1), some (a + 2), some (a + 3), some (a + 4), none, none, none, none]), (20, 28, []), (20, 28, []), (20, 16, []), (20, 16, [])]
def sTown (a t room : Nat) : List Sh := [(6, 11, [some t, some (a + 1), some (a + 2), some (a + 3), some (a + 4), some (a + 5), none, none, none, none, none]), (20, room, []), (20, room, []), (20, room, []), (20, room, []), (20, room, [])]
/-- the class's cells behind its constructor -/
def SS1 : List Sh := [(7, 14, [some 1, some 13, some 15, some 20, some 25, some 31, some 177, some 246, some 248, some 249, some 250, none, none, none]),
  (4, 3, [some 2, some 11, some 12]), (22, 8, [some 3, some 4, some 5, some 6, some 7, some 8, some 9, some 10]), (20, 40, []), (20, 40, []), (20, 40, []), (20, 40, []), (20, 40, []), (20, 40, []), (20, 40, []), (20, 40, []), (20, 8, []), (20, 8, []),
  (3, 4, [some 14, none, none, none]), (20, 160, [])] ++ sTold 15 ++ sTold 20 ++ sTown 25 20 16 ++ [(0, 3, [some 32, none, none]), (24, 24, (List.range 24).map (fun i => some (33 + 6 * i)))] ++ (List.range 24).flatMap (fun i => sTown (33 + 6 * i) 20 16) ++
  [(2, 5, [some 178, some 25, some 179, some 185, some 191]), (20, 16, [])] ++ sTown 179 20 28 ++ sTown 185 20 16 ++ [(24, 9, (List.range 9).map (fun i => some (192 + 6 * i)))] ++ (List.range 9).flatMap (fun i => sTown (192 + 6 * i) 20 16) ++
  [(1, 4, [some 20, some 25, some 247, none]), (20, 16, []), (23, 2, [some 251, some 262]), (24, 2, [some 256, some 267]), (21, 2, [])] ++ sTold 251 ++ sTown 256 251 16 ++ sTold 262 ++ sTown 267 262 16
def SS2 : List Sh := [(8, 22, [some 274, some 275, some 276, some 277, none, some 278, none, some 279, some 280, some 281, some 282, some 283, some 284, none, none, none, none, some 285, some 286, some 287, some 288, none]),
  (20, 232, []), (20, 464, []), (21, 2, []), (20, 3480, []), (20, 232, []), (20, 8, []), (20, 8, []), (21, 8, []), (20, 320, []), (20, 40, []), (20, 160, []), (20, 232, []), (20, 28, []), (20, 28, []), (20, 16, [])]
def SS : List Sh := SS1 ++ SS2
def M0 : Mem := fun a i => if a = 12 then -1 else if (a = 16 ∨ a = 21 ∨ a = 252 ∨ a = 263) ∧ 16 ≤ i then 1 else if (a = 17 ∨ a = 22 ∨ a = 253 ∨ a = 264) ∧ 16 ≤ i then 99 else 0
/-! the same machine, its state worked out at every step: for the kernel -/
def fN {β : Type} (n : Nat) (k : Nat → β) : β := match n with
  | 0 => k 0
  | m + 1 => k (m + 1)
def fZ {β : Type} (x : Int) (k : Int → β) : β := match x with
  | .ofNat n => fN n (fun n => k (.ofNat n))
  | .negSucc n => fN n (fun n => k (.negSucc n))
def fO {β : Type} (r : Option Nat) (k : Option Nat → β) : β := match r with
  | none => k none
  | some a => fN a (fun a => k (some a))
def fV {β : Type} (v : Vv) (k : Vv → β) : β := match v with
  | .inl x => fZ x (fun x => k (.inl x))
  | .inr (.inl x) => fZ x (fun x => k (.inr (.inl x)))
  | .inr (.inr r) => fO r (fun r => k (.inr (.inr r)))
def fOV {β : Type} (o : Option Vv) (k : Option Vv → β) : β := match o with
  | none => k none
  | some v => fV v (fun v => k (some v))
def fLV {β : Type} : List Vv → (List Vv → β) → β
  | [], k => k []
  | x :: xs, k => fV x (fun x => fLV xs (fun xs => k (x :: xs)))
def fLO {β : Type} : List (Option Vv) → (List (Option Vv) → β) → β
  | [], k => k []
  | x :: xs, k => fOV x (fun x => fLO xs (fun xs => k (x :: xs)))
def fLR {β : Type} : List (Option Nat) → (List (Option Nat) → β) → β
  | [], k => k []
  | x :: xs, k => fO x (fun x => fLR xs (fun xs => k (x :: xs)))
def fSh {β : Type} (h : Sh) (k : Sh → β) : β := match h with
  | (a, n, r) => fN a (fun a => fN n (fun n => fLR r (fun r => k (a, n, r))))
def fLS {β : Type} : List Sh → (List Sh → β) → β
  | [], k => k []
  | x :: xs, k => fSh x (fun x => fLS xs (fun xs => k (x :: xs)))
theorem fN_e {β : Type} (n : Nat) (k : Nat → β) : fN n k = k n := by cases n <;> rfl
theorem fZ_e {β : Type} (n : Int) (k : Int → β) : fZ n k = k n := by cases n <;> simp only [fZ, fN_e]
theorem fO_e {β : Type} (n : Option Nat) (k : Option Nat → β) : fO n k = k n := by cases n <;> simp only [fO, fN_e]
theorem fV_e {β : Type} (v : Vv) (k : Vv → β) : fV v k = k v := by
  rcases v with x | x | x <;> simp only [fV, fZ_e, fO_e]
theorem fOV_e {β : Type} (v : Option Vv) (k : Option Vv → β) : fOV v k = k v := by cases v <;> simp only [fOV, fV_e]
theorem fLV_e {β : Type} (l : List Vv) : ∀ (k : List Vv → β), fLV l k = k l := by
  induction l with
  | nil => intro k; rfl
  | cons x xs ih => intro k; simp only [fLV, fV_e, ih]
theorem fLO_e {β : Type} (l : List (Option Vv)) : ∀ (k : List (Option Vv) → β), fLO l k = k l := by
  induction l with
  | nil => intro k; rfl
  | cons x xs ih => intro k; simp only [fLO, fOV_e, ih]
theorem fLR_e {β : Type} (l : List (Option Nat)) : ∀ (k : List (Option Nat) → β), fLR l k = k l := by
  induction l with
  | nil => intro k; rfl
  | cons x xs ih => intro k; simp only [fLR, fO_e, ih]
theorem fSh_e {β : Type} (h : Sh) (k : Sh → β) : fSh h k = k h := by
  obtain ⟨a, n, r⟩ := h
  simp only [fSh, fN_e, fLR_e]
theorem fLS_e {β : Type} (l : List Sh) : ∀ (k : List Sh → β), fLS l k = k l := by
  induction l with
  | nil => intro k; rfl
  | cons x xs ih => intro k; simp only [fLS, fSh_e, ih]
def chS : Option Instr → Bool := fun i => match i with
  | some (.new _) | some (.newarray _) | some (.anewarray _) | some (.multianewarray _ _) | some (.putfield _) | some .aastore => true
  | _ => false
def fS {β : Type} (b : Bool) (S : List Sh) (k : List Sh → β) : β := if b then fLS S k else k S
theorem fS_e {β : Type} (b : Bool) (S : List Sh) (k : List Sh → β) : fS b S k = k S := by cases b <;> simp [fS, fLS_e]
def runF : Nat → Nat → Nat → Nat → Lv → List Vv → List Sh → Mem → Option (Option Vv × List Sh × Mem)
  | 0, _, _, _, _, _, _, _ => none
  | n + 1, d, mid, pc, ls, st, S, M => match act mid pc ls st S M with
    | none => none
    | some (.inl (pc', ls', st', S', M')) => fN pc' (fun pc' => fLO ls' (fun ls' => fLV st' (fun st' => fS (chS (ins mid pc)) S' (fun S' => runF n d mid pc' ls' st' S' M'))))
    | some (.inr (.inl (mid', args, rest))) => (match d with
      | 0 => none
      | d' + 1 => if (eLoc args).length ≤ mL mid' then fN mid' (fun mid' => fLO (entryL mid' args) (fun el => fLV rest (fun rest => (match runF n d' mid' 0 el [] S M with
        | none => none
        | some (r, S', M') => fN (pc + 3) (fun pc' => fLV (r.toList ++ rest) (fun st' => fLS S' (fun S' => runF n d mid pc' ls st' S' M'))))))) else none)
    | some (.inr (.inr r)) => some (r, S, M)
theorem runF_e : ∀ (n d mid pc : Nat) (ls : Lv) (st : List Vv) (S : List Sh) (M : Mem), runF n d mid pc ls st S M = run n d mid pc ls st S M := by
  intro n
  induction n with
  | zero => intros; rfl
  | succ n ih =>
    intro d mid pc ls st S M
    simp only [runF, run, fN_e, fLO_e, fLV_e, fS_e, fLS_e, ih]
    rcases act mid pc ls st S M with _ | ⟨pc', ls', st', S', M'⟩ | ⟨mid', args, rest⟩ | r
    · rfl
    · rfl
    · cases d with
      | zero => rfl
      | succ d =>
        simp only
        rcases run n d mid' 0 (entryL mid' args) [] S M with _ | ⟨r, S', M'⟩ <;> rfl
    · rfl

/-- where one memory is as another, over some cells -/
def sameM (M N : Mem) (L : List (Nat × Nat)) : Bool := L.all (fun q => (List.range q.2).all (fun i => decide (M q.1 (i : Int) = N q.1 (i : Int))))
def okC1 : Bool := match runF 30000 60 84 0 (entryL 84 [vR (some 0)]) [] [(7, 14, List.replicate 14 none)] (fun _ _ => 0) with
  | some (none, S', M') => decide (S' = SS1) && sameM M' M0 [(0, 14), (12, 8), (13, 4), (20, 8), (21, 28), (22, 28), (25, 11), (31, 3), (246, 4), (250, 2)]
  | _ => false
set_option maxRecDepth 100000 in
theorem okC1_t : okC1 = true := by decide +kernel
def okC2 : Bool := match runF 30000 60 121 0 (entryL 121 [vR (some 273)]) [] (SS1 ++ [(8, 22, List.replicate 22 none)]) (fun _ _ => 0) with
  | some (none, S', M') => decide (S' = SS)
  | _ => false
set_option maxRecDepth 100000 in
theorem okC2_t : okC2 = true := by decide +kernel
