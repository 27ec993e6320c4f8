theorem run_mono : ∀ (n d mid pc : Nat) (ls : Lv) (st : List Vv) (S : List Sh) (M : Mem) (x : Option Vv × List Sh × Mem), run n d mid pc ls st S M = some x → ∀ k, run (n + k) d mid pc ls st S M = some x := by
  intro n
  induction n with
  | zero => intro d mid pc ls st S M x h; cases h
  | succ n ih =>
    intro d mid pc ls st S M x h k
    rw [show n + 1 + k = (n + k) + 1 by omega]
    unfold run at h ⊢
    rcases hact : act mid pc ls st S M with _ | ⟨pc', ls', st', S', M'⟩ | ⟨mid', args, rest⟩ | r
    · rw [hact] at h; cases h
    · rw [hact] at h
      exact ih _ _ _ _ _ _ _ _ h k
    · rw [hact] at h
      simp only at h ⊢
      cases d with
      | zero => cases h
      | succ d =>
        simp only at h ⊢
        split at h
        · next hl =>
          rw [if_pos hl]
          rcases hr : run n d mid' 0 (entryL mid' args) [] S M with _ | ⟨r, S', M'⟩
          · rw [hr] at h; cases h
          · rw [hr] at h
            rw [ih _ _ _ _ _ _ _ _ hr k]
            exact ih _ _ _ _ _ _ _ _ h k
        · cases h
    · rw [hact] at h
      exact h
/-- the little machine comes from here to an end with Q -/
def Ok (d mid pc : Nat) (ls : Lv) (st : List Vv) (M : Mem) (Q : Option Vv → Mem → Prop) : Prop := ∃ n r M', run n d mid pc ls st SS M = some (r, SS, M') ∧ Q r M'
section OKS
variable {d mid pc pc' : Nat} {ls ls' : Lv} {st st' : List Vv} {M M' : Mem} {Q : Option Vv → Mem → Prop}
theorem ok_step (ha : act mid pc ls st SS M = some (.inl (pc', ls', st', SS, M'))) (k : Ok d mid pc' ls' st' M' Q) : Ok d mid pc ls st M Q := by
  obtain ⟨n, r, M2, h1, h2⟩ := k
  refine ⟨n + 1, r, M2, ?_, h2⟩
  unfold run
  rw [ha]
  exact h1
theorem ok_ret {r : Option Vv} (ha : act mid pc ls st SS M = some (.inr (.inr r))) (k : Q r M) : Ok d mid pc ls st M Q := by
  refine ⟨1, r, M, ?_, k⟩
  unfold run
  rw [ha]
theorem ok_call {mid' : Nat} {av rest : List Vv} {el : Lv} (ha : act mid pc ls st SS M = some (.inr (.inl (mid', av, rest)))) (he : entryL mid' av = el) (hl : Nat.ble (eLoc av).length (mL mid') = true) (k : Ok d mid' 0 el [] M (fun r M' => Ok (d + 1) mid (pc + 3) ls (r.toList ++ rest) M' Q)) : Ok (d + 1) mid pc ls st M Q := by
  obtain ⟨n1, r1, M1, h1, n2, r2, M2, h3, h4⟩ := k
  refine ⟨n1 + n2 + 1, r2, M2, ?_, h4⟩
  unfold run
  rw [ha]
  simp only
  rw [if_pos (Nat.le_of_ble_eq_true hl), he, run_mono _ _ _ _ _ _ _ _ _ h1 n2]
  simp only
  rw [Nat.add_comm n1 n2]
  exact run_mono _ _ _ _ _ _ _ _ _ h3 n1
theorem Ok.imp {Q' : Option Vv → Mem → Prop} (h : Ok d mid pc ls st M Q) (hq : ∀ r M', Q r M' → Q' r M') : Ok d mid pc ls st M Q' := by
  obtain ⟨n, r, M', h1, h2⟩ := h
  exact ⟨n, r, M', h1, hq _ _ h2⟩
theorem act_ins {i : Instr} (hi : ins mid pc = some i) : act mid pc ls st SS M = actI (mOwn mid) (decide ((mY mid).name = "<init>")) (mR mid) i pc ls st SS M := by
  unfold act
  rw [hi]
theorem k_iconst {n : Int} (hi : ins mid pc = some (.iconst n)) (h : inR n) (k : Ok d mid (pc + 1) ls (vI n :: st) M Q) : Ok d mid pc ls st M Q := ok_step (by rw [act_ins hi]; show pI _ _ _ _ _ _ = _; unfold pI; rw [if_pos h]; rfl) k
theorem k_bipush {n : Int} (hi : ins mid pc = some (.bipush n)) (h : -128 ≤ n ∧ n ≤ 127) (k : Ok d mid (pc + 2) ls (vI n :: st) M Q) : Ok d mid pc ls st M Q := ok_step (by rw [act_ins hi]; show (if _ then _ else _) = _; rw [if_pos h]; rfl) k
theorem k_sipush {n : Int} (hi : ins mid pc = some (.sipush n)) (h : -32768 ≤ n ∧ n ≤ 32767) (k : Ok d mid (pc + 3) ls (vI n :: st) M Q) : Ok d mid pc ls st M Q := ok_step (by rw [act_ins hi]; show (if _ then _ else _) = _; rw [if_pos h]; rfl) k
theorem k_lconst {n : Fin 2} {z : Int} (hi : ins mid pc = some (.lconst n)) (hz : (n.val : Int) = z) (k : Ok d mid (pc + 1) ls (vL z :: st) M Q) : Ok d mid pc ls st M Q := by
  subst hz
  exact ok_step (by rw [act_ins hi]; rfl) k
theorem k_ldc {o idx : Nat} {z : Int} (hi : ins mid pc = some (.ldc idx)) (ho : mOwn mid = o) (hk : lk poolC (o * 1000 + idx) = some z) (h : inR z) (k : Ok d mid (pc + 2) ls (vI z :: st) M Q) : Ok d mid pc ls st M Q := ok_step (by rw [act_ins hi]; show aLdc _ _ _ _ _ _ _ = _; unfold aLdc; rw [ho, hk]; show pI _ _ _ _ _ _ = _; unfold pI; rw [if_pos h]; rfl) k
theorem k_ldc_w {o idx : Nat} {z : Int} (hi : ins mid pc = some (.ldc_w idx)) (ho : mOwn mid = o) (hk : lk poolC (o * 1000 + idx) = some z) (h : inR z) (k : Ok d mid (pc + 3) ls (vI z :: st) M Q) : Ok d mid pc ls st M Q := ok_step (by rw [act_ins hi]; show aLdc _ _ _ _ _ _ _ = _; unfold aLdc; rw [ho, hk]; show pI _ _ _ _ _ _ = _; unfold pI; rw [if_pos h]; rfl) k
theorem k_ldc2 {o idx : Nat} {z : Int} (hi : ins mid pc = some (.ldc2_w idx)) (ho : mOwn mid = o) (hk : lk poolL (o * 1000 + idx) = some z) (h : inL z) (k : Ok d mid (pc + 3) ls (vL z :: st) M Q) : Ok d mid pc ls st M Q := ok_step (by rw [act_ins hi]; show aLdc2 _ _ _ _ _ _ = _; unfold aLdc2; rw [ho, hk]; show pL _ _ _ _ _ _ = _; unfold pL; rw [if_pos h]; rfl) k
theorem k_iload_n {j : Fin 4} {x : Int} (hi : ins mid pc = some (.iload_n j)) (h : ls[j.val]? = some (some (vI x))) (k : Ok d mid (pc + 1) ls (vI x :: st) M Q) : Ok d mid pc ls st M Q := ok_step (by rw [act_ins hi]; show ldI _ _ _ _ _ _ = _; unfold ldI; rw [h]; rfl) k
theorem k_iload {j : Nat} {x : Int} (hi : ins mid pc = some (.iload j)) (h : ls[j]? = some (some (vI x))) (k : Ok d mid (pc + 2) ls (vI x :: st) M Q) : Ok d mid pc ls st M Q := ok_step (by rw [act_ins hi]; show ldI _ _ _ _ _ _ = _; unfold ldI; rw [h]; rfl) k
theorem k_lload_n {j : Fin 4} {x : Int} (hi : ins mid pc = some (.lload_n j)) (h : ls[j.val]? = some (some (vL x))) (k : Ok d mid (pc + 1) ls (vL x :: st) M Q) : Ok d mid pc ls st M Q := ok_step (by rw [act_ins hi]; show ldL _ _ _ _ _ _ = _; unfold ldL; rw [h]; rfl) k
theorem k_lload {j : Nat} {x : Int} (hi : ins mid pc = some (.lload j)) (h : ls[j]? = some (some (vL x))) (k : Ok d mid (pc + 2) ls (vL x :: st) M Q) : Ok d mid pc ls st M Q := ok_step (by rw [act_ins hi]; show ldL _ _ _ _ _ _ = _; unfold ldL; rw [h]; rfl) k
theorem k_aload_n {j : Fin 4} {x : Nat} (hi : ins mid pc = some (.aload_n j)) (h : ls[j.val]? = some (some (vR (some x)))) (k : Ok d mid (pc + 1) ls (vR (some x) :: st) M Q) : Ok d mid pc ls st M Q := ok_step (by rw [act_ins hi]; show ldA _ _ _ _ _ _ = _; unfold ldA; rw [h]; rfl) k
theorem k_aload {j : Nat} {x : Nat} (hi : ins mid pc = some (.aload j)) (h : ls[j]? = some (some (vR (some x)))) (k : Ok d mid (pc + 2) ls (vR (some x) :: st) M Q) : Ok d mid pc ls st M Q := ok_step (by rw [act_ins hi]; show ldA _ _ _ _ _ _ = _; unfold ldA; rw [h]; rfl) k
theorem k_istore_n {j : Fin 4} {x : Int} (hi : ins mid pc = some (.istore_n j)) (h : st1 ls j.val (vI x) = some ls') (k : Ok d mid (pc + 1) ls' st M Q) : Ok d mid pc ls (vI x :: st) M Q := ok_step (by rw [act_ins hi]; simp only [actI, stI, h]; rfl) k
theorem k_istore {j : Nat} {x : Int} (hi : ins mid pc = some (.istore j)) (h : st1 ls j (vI x) = some ls') (k : Ok d mid (pc + 2) ls' st M Q) : Ok d mid pc ls (vI x :: st) M Q := ok_step (by rw [act_ins hi]; simp only [actI, stI, h]; rfl) k
theorem k_lstore_n {j : Fin 4} {x : Int} (hi : ins mid pc = some (.lstore_n j)) (h : st2 ls j.val (vL x) = some ls') (k : Ok d mid (pc + 1) ls' st M Q) : Ok d mid pc ls (vL x :: st) M Q := ok_step (by rw [act_ins hi]; simp only [actI, stL, h]; rfl) k
theorem k_lstore {j : Nat} {x : Int} (hi : ins mid pc = some (.lstore j)) (h : st2 ls j (vL x) = some ls') (k : Ok d mid (pc + 2) ls' st M Q) : Ok d mid pc ls (vL x :: st) M Q := ok_step (by rw [act_ins hi]; simp only [actI, stL, h]; rfl) k
theorem k_astore_n {j : Fin 4} {x : Nat} (hi : ins mid pc = some (.astore_n j)) (h : st1 ls j.val (vR (some x)) = some ls') (k : Ok d mid (pc + 1) ls' st M Q) : Ok d mid pc ls (vR (some x) :: st) M Q := ok_step (by rw [act_ins hi]; simp only [actI, stA, h]; rfl) k
theorem k_astore {j : Nat} {x : Nat} (hi : ins mid pc = some (.astore j)) (h : st1 ls j (vR (some x)) = some ls') (k : Ok d mid (pc + 2) ls' st M Q) : Ok d mid pc ls (vR (some x) :: st) M Q := ok_step (by rw [act_ins hi]; simp only [actI, stA, h]; rfl) k
theorem k_iinc {j : Nat} {x n : Int} (hi : ins mid pc = some (.iinc j n)) (hx : ls[j]? = some (some (vI x))) (hr : -2147483648 ≤ n ∧ n ≤ 2147483647 ∧ -2147483648 ≤ x + n ∧ x + n ≤ 2147483647) (h : st1 ls j (vI (x + n)) = some ls') (k : Ok d mid (pc + 3) ls' st M Q) : Ok d mid pc ls st M Q := ok_step (by rw [act_ins hi]; simp only [actI, aInc, hx, h]; rw [if_pos ⟨⟨hr.1, hr.2.1⟩, hr.2.2⟩]; rfl) k
theorem k_iadd {x y : Int} (hi : ins mid pc = some .iadd) (h : -2147483648 ≤ x + y ∧ x + y ≤ 2147483647) (k : Ok d mid (pc + 1) ls (vI (x + y) :: st) M Q) : Ok d mid pc ls (vI y :: vI x :: st) M Q := ok_step (by rw [act_ins hi]; show pI _ _ _ _ _ _ = _; unfold pI; rw [if_pos h]; rfl) k
theorem k_isub {x y : Int} (hi : ins mid pc = some .isub) (h : -2147483648 ≤ x - y ∧ x - y ≤ 2147483647) (k : Ok d mid (pc + 1) ls (vI (x - y) :: st) M Q) : Ok d mid pc ls (vI y :: vI x :: st) M Q := ok_step (by rw [act_ins hi]; show pI _ _ _ _ _ _ = _; unfold pI; rw [if_pos h]; rfl) k
theorem k_imul {x y : Int} (hi : ins mid pc = some .imul) (h : -2147483648 ≤ x * y ∧ x * y ≤ 2147483647) (k : Ok d mid (pc + 1) ls (vI (x * y) :: st) M Q) : Ok d mid pc ls (vI y :: vI x :: st) M Q := ok_step (by rw [act_ins hi]; show pI _ _ _ _ _ _ = _; unfold pI; rw [if_pos h]; rfl) k
theorem k_ineg {x : Int} (hi : ins mid pc = some .ineg) (h : -2147483648 ≤ -x ∧ -x ≤ 2147483647) (k : Ok d mid (pc + 1) ls (vI (-x) :: st) M Q) : Ok d mid pc ls (vI x :: st) M Q := ok_step (by rw [act_ins hi]; show pI _ _ _ _ _ _ = _; unfold pI; rw [if_pos h]; rfl) k
theorem k_idiv {x y : Int} (hi : ins mid pc = some .idiv) (hy : ¬ y = 0) (h : inR (x.tdiv y)) (k : Ok d mid (pc + 1) ls (vI (x.tdiv y) :: st) M Q) : Ok d mid pc ls (vI y :: vI x :: st) M Q := ok_step (by rw [act_ins hi]; simp only [actI, bI, if_neg hy, pI]; rw [if_pos h]; rfl) k
theorem k_irem {x y : Int} (hi : ins mid pc = some .irem) (hy : ¬ y = 0) (h : inR (x.tmod y)) (k : Ok d mid (pc + 1) ls (vI (x.tmod y) :: st) M Q) : Ok d mid pc ls (vI y :: vI x :: st) M Q := ok_step (by rw [act_ins hi]; simp only [actI, bI, if_neg hy, pI]; rw [if_pos h]; rfl) k
theorem k_iand {x y z : Int} (hi : ins mid pc = some .iand) (hz : (Int32.ofInt x &&& Int32.ofInt y).toInt = z) (k : Ok d mid (pc + 1) ls (vI z :: st) M Q) : Ok d mid pc ls (vI y :: vI x :: st) M Q := ok_step (by rw [act_ins hi]; show pI _ _ _ _ _ _ = _; unfold pI; rw [if_pos (inR_toInt _), hz]; rfl) k
theorem k_ishl {x y z : Int} (hi : ins mid pc = some .ishl) (hz : (Int32.ofInt x <<< (Int32.ofInt y &&& 31)).toInt = z) (k : Ok d mid (pc + 1) ls (vI z :: st) M Q) : Ok d mid pc ls (vI y :: vI x :: st) M Q := ok_step (by rw [act_ins hi]; show pI _ _ _ _ _ _ = _; unfold pI; rw [if_pos (inR_toInt _), hz]; rfl) k
theorem k_ishr {x y z : Int} (hi : ins mid pc = some .ishr) (hz : (Int32.ofInt x >>> (Int32.ofInt y &&& 31)).toInt = z) (k : Ok d mid (pc + 1) ls (vI z :: st) M Q) : Ok d mid pc ls (vI y :: vI x :: st) M Q := ok_step (by rw [act_ins hi]; show pI _ _ _ _ _ _ = _; unfold pI; rw [if_pos (inR_toInt _), hz]; rfl) k
theorem k_i2b {x z : Int} (hi : ins mid pc = some .i2b) (hz : (Int32.ofInt x).toInt8.toInt32.toInt = z) (k : Ok d mid (pc + 1) ls (vI z :: st) M Q) : Ok d mid pc ls (vI x :: st) M Q := ok_step (by rw [act_ins hi]; simp only [actI, uI, pI]; rw [if_pos (inR_toInt _), hz]; rfl) k
theorem k_i2s {x z : Int} (hi : ins mid pc = some .i2s) (hz : (Int32.ofInt x).toInt16.toInt32.toInt = z) (k : Ok d mid (pc + 1) ls (vI z :: st) M Q) : Ok d mid pc ls (vI x :: st) M Q := ok_step (by rw [act_ins hi]; simp only [actI, uI, pI]; rw [if_pos (inR_toInt _), hz]; rfl) k
theorem k_i2l {x : Int} (hi : ins mid pc = some .i2l) (k : Ok d mid (pc + 1) ls (vL x :: st) M Q) : Ok d mid pc ls (vI x :: st) M Q := ok_step (by rw [act_ins hi]; rfl) k
theorem k_l2i {x : Int} (hi : ins mid pc = some .l2i) (h : inR x) (k : Ok d mid (pc + 1) ls (vI x :: st) M Q) : Ok d mid pc ls (vL x :: st) M Q := ok_step (by rw [act_ins hi]; show pI _ _ _ _ _ _ = _; unfold pI; rw [if_pos h]; rfl) k
theorem k_ladd {x y : Int} (hi : ins mid pc = some .ladd) (h : inL (x + y)) (k : Ok d mid (pc + 1) ls (vL (x + y) :: st) M Q) : Ok d mid pc ls (vL y :: vL x :: st) M Q := ok_step (by rw [act_ins hi]; show pL _ _ _ _ _ _ = _; unfold pL; rw [if_pos h]; rfl) k
theorem k_lmul {x y : Int} (hi : ins mid pc = some .lmul) (h : inL (x * y)) (k : Ok d mid (pc + 1) ls (vL (x * y) :: st) M Q) : Ok d mid pc ls (vL y :: vL x :: st) M Q := ok_step (by rw [act_ins hi]; show pL _ _ _ _ _ _ = _; unfold pL; rw [if_pos h]; rfl) k
theorem k_ldiv {x y : Int} (hi : ins mid pc = some .ldiv) (hy : ¬ y = 0) (h : inL (x.tdiv y)) (k : Ok d mid (pc + 1) ls (vL (x.tdiv y) :: st) M Q) : Ok d mid pc ls (vL y :: vL x :: st) M Q := ok_step (by rw [act_ins hi]; simp only [actI, bL, if_neg hy, pL]; rw [if_pos h]; rfl) k
theorem k_lrem {x y : Int} (hi : ins mid pc = some .lrem) (hy : ¬ y = 0) (h : inL (x.tmod y)) (k : Ok d mid (pc + 1) ls (vL (x.tmod y) :: st) M Q) : Ok d mid pc ls (vL y :: vL x :: st) M Q := ok_step (by rw [act_ins hi]; simp only [actI, bL, if_neg hy, pL]; rw [if_pos h]; rfl) k
theorem k_lcmp {x y : Int} (hi : ins mid pc = some .lcmp) (k : Ok d mid (pc + 1) ls (vI (if x < y then -1 else if x = y then 0 else 1) :: st) M Q) : Ok d mid pc ls (vL y :: vL x :: st) M Q := ok_step (by rw [act_ins hi]; rfl) k
theorem k_dupI {x : Int} (hi : ins mid pc = some .dup) (k : Ok d mid (pc + 1) ls (vI x :: vI x :: st) M Q) : Ok d mid pc ls (vI x :: st) M Q := ok_step (by rw [act_ins hi]; rfl) k
theorem k_dupR {x : Option Nat} (hi : ins mid pc = some .dup) (k : Ok d mid (pc + 1) ls (vR x :: vR x :: st) M Q) : Ok d mid pc ls (vR x :: st) M Q := ok_step (by rw [act_ins hi]; rfl) k
theorem k_dup2 {x : Int} {y : Option Nat} (hi : ins mid pc = some .dup2) (k : Ok d mid (pc + 1) ls (vI x :: vR y :: vI x :: vR y :: st) M Q) : Ok d mid pc ls (vI x :: vR y :: st) M Q := ok_step (by rw [act_ins hi]; rfl) k
theorem k_goto {off : Int} {t : Nat} (hi : ins mid pc = some (.goto off)) (ht : (pc : Int) + off = (t : Int)) (k : Ok d mid t ls st M Q) : Ok d mid pc ls st M Q := ok_step (by rw [act_ins hi]; show jmp _ _ _ _ _ _ = _; unfold jmp; rw [if_pos (by omega), show ((pc : Int) + off).toNat = t by omega]; rfl) k
theorem br_t' {b : Bool} {off : Int} {t : Nat} {S : List Sh} (ht : (pc : Int) + off = (t : Int)) (hb : b = true) : br b pc off ls st S M = some (.inl (t, ls, st, S, M)) := by
  unfold br
  rw [if_pos (by omega), if_pos hb, show ((pc : Int) + off).toNat = t by omega]
  rfl
theorem br_f' {b : Bool} {off : Int} {t : Nat} {S : List Sh} (ht : (pc : Int) + off = (t : Int)) (hb : b = false) : br b pc off ls st S M = some (.inl (pc + 3, ls, st, S, M)) := by
  unfold br
  rw [if_pos (by omega), hb]
  rfl
theorem k_if {x : Int} {off : Int} {t : Nat} {f : Int → Bool} {i : Instr} (hi : ins mid pc = some i) (hf : actI (mOwn mid) (decide ((mY mid).name = "<init>")) (mR mid) i pc ls (vI x :: st) SS M = br (f x) pc off ls st SS M) (ht : (pc : Int) + off = (t : Int)) (kt : f x = true → Ok d mid t ls st M Q) (kf : f x = false → Ok d mid (pc + 3) ls st M Q) : Ok d mid pc ls (vI x :: st) M Q := by
  by_cases h : f x = true
  · exact ok_step (by rw [act_ins hi, hf, br_t' ht h]) (kt h)
  · have h2 : f x = false := by simpa using h
    exact ok_step (by rw [act_ins hi, hf, br_f' ht h2]) (kf h2)
theorem k_icmp {x y : Int} {off : Int} {t : Nat} {f : Int → Int → Bool} {i : Instr} (hi : ins mid pc = some i) (hf : actI (mOwn mid) (decide ((mY mid).name = "<init>")) (mR mid) i pc ls (vI y :: vI x :: st) SS M = br (f x y) pc off ls st SS M) (ht : (pc : Int) + off = (t : Int)) (kt : f x y = true → Ok d mid t ls st M Q) (kf : f x y = false → Ok d mid (pc + 3) ls st M Q) : Ok d mid pc ls (vI y :: vI x :: st) M Q := by
  by_cases h : f x y = true
  · exact ok_step (by rw [act_ins hi, hf, br_t' ht h]) (kt h)
  · have h2 : f x y = false := by simpa using h
    exact ok_step (by rw [act_ins hi, hf, br_f' ht h2]) (kf h2)
theorem k_if_eq {x off : Int} {t : Nat} (hi : ins mid pc = some (.ifCond .eq off)) (ht : (pc : Int) + off = (t : Int)) (kt : x = 0 → Ok d mid t ls st M Q) (kf : ¬ x = 0 → Ok d mid (pc + 3) ls st M Q) : Ok d mid pc ls (vI x :: st) M Q := k_if (f := fun x => decide (x = 0)) hi rfl ht (fun h => kt (of_decide_eq_true h)) (fun h => kf (of_decide_eq_false h))
theorem k_if_ne {x off : Int} {t : Nat} (hi : ins mid pc = some (.ifCond .ne off)) (ht : (pc : Int) + off = (t : Int)) (kt : ¬ x = 0 → Ok d mid t ls st M Q) (kf : x = 0 → Ok d mid (pc + 3) ls st M Q) : Ok d mid pc ls (vI x :: st) M Q := k_if (f := fun x => decide (¬ x = 0)) hi rfl ht (fun h => kt (of_decide_eq_true h)) (fun h => kf (Decidable.not_not.mp (of_decide_eq_false h)))
theorem k_if_lt {x off : Int} {t : Nat} (hi : ins mid pc = some (.ifCond .lt off)) (ht : (pc : Int) + off = (t : Int)) (kt : x < 0 → Ok d mid t ls st M Q) (kf : ¬ x < 0 → Ok d mid (pc + 3) ls st M Q) : Ok d mid pc ls (vI x :: st) M Q := k_if (f := fun x => decide (x < 0)) hi rfl ht (fun h => kt (of_decide_eq_true h)) (fun h => kf (of_decide_eq_false h))
theorem k_if_ge {x off : Int} {t : Nat} (hi : ins mid pc = some (.ifCond .ge off)) (ht : (pc : Int) + off = (t : Int)) (kt : 0 ≤ x → Ok d mid t ls st M Q) (kf : ¬ 0 ≤ x → Ok d mid (pc + 3) ls st M Q) : Ok d mid pc ls (vI x :: st) M Q := k_if (f := fun x => decide (0 ≤ x)) hi rfl ht (fun h => kt (of_decide_eq_true h)) (fun h => kf (of_decide_eq_false h))
theorem k_if_gt {x off : Int} {t : Nat} (hi : ins mid pc = some (.ifCond .gt off)) (ht : (pc : Int) + off = (t : Int)) (kt : 0 < x → Ok d mid t ls st M Q) (kf : ¬ 0 < x → Ok d mid (pc + 3) ls st M Q) : Ok d mid pc ls (vI x :: st) M Q := k_if (f := fun x => decide (0 < x)) hi rfl ht (fun h => kt (of_decide_eq_true h)) (fun h => kf (of_decide_eq_false h))
theorem k_if_le {x off : Int} {t : Nat} (hi : ins mid pc = some (.ifCond .le off)) (ht : (pc : Int) + off = (t : Int)) (kt : x ≤ 0 → Ok d mid t ls st M Q) (kf : ¬ x ≤ 0 → Ok d mid (pc + 3) ls st M Q) : Ok d mid pc ls (vI x :: st) M Q := k_if (f := fun x => decide (x ≤ 0)) hi rfl ht (fun h => kt (of_decide_eq_true h)) (fun h => kf (of_decide_eq_false h))
theorem k_icmp_eq {x y off : Int} {t : Nat} (hi : ins mid pc = some (.if_icmp .eq off)) (ht : (pc : Int) + off = (t : Int)) (kt : x = y → Ok d mid t ls st M Q) (kf : ¬ x = y → Ok d mid (pc + 3) ls st M Q) : Ok d mid pc ls (vI y :: vI x :: st) M Q := k_icmp (f := fun x y => decide (x = y)) hi rfl ht (fun h => kt (of_decide_eq_true h)) (fun h => kf (of_decide_eq_false h))
theorem k_icmp_ne {x y off : Int} {t : Nat} (hi : ins mid pc = some (.if_icmp .ne off)) (ht : (pc : Int) + off = (t : Int)) (kt : ¬ x = y → Ok d mid t ls st M Q) (kf : x = y → Ok d mid (pc + 3) ls st M Q) : Ok d mid pc ls (vI y :: vI x :: st) M Q := k_icmp (f := fun x y => decide (¬ x = y)) hi rfl ht (fun h => kt (of_decide_eq_true h)) (fun h => kf (Decidable.not_not.mp (of_decide_eq_false h)))
theorem k_icmp_lt {x y off : Int} {t : Nat} (hi : ins mid pc = some (.if_icmp .lt off)) (ht : (pc : Int) + off = (t : Int)) (kt : x < y → Ok d mid t ls st M Q) (kf : ¬ x < y → Ok d mid (pc + 3) ls st M Q) : Ok d mid pc ls (vI y :: vI x :: st) M Q := k_icmp (f := fun x y => decide (x < y)) hi rfl ht (fun h => kt (of_decide_eq_true h)) (fun h => kf (of_decide_eq_false h))
theorem k_icmp_ge {x y off : Int} {t : Nat} (hi : ins mid pc = some (.if_icmp .ge off)) (ht : (pc : Int) + off = (t : Int)) (kt : y ≤ x → Ok d mid t ls st M Q) (kf : ¬ y ≤ x → Ok d mid (pc + 3) ls st M Q) : Ok d mid pc ls (vI y :: vI x :: st) M Q := k_icmp (f := fun x y => decide (y ≤ x)) hi rfl ht (fun h => kt (of_decide_eq_true h)) (fun h => kf (of_decide_eq_false h))
theorem k_icmp_gt {x y off : Int} {t : Nat} (hi : ins mid pc = some (.if_icmp .gt off)) (ht : (pc : Int) + off = (t : Int)) (kt : y < x → Ok d mid t ls st M Q) (kf : ¬ y < x → Ok d mid (pc + 3) ls st M Q) : Ok d mid pc ls (vI y :: vI x :: st) M Q := k_icmp (f := fun x y => decide (y < x)) hi rfl ht (fun h => kt (of_decide_eq_true h)) (fun h => kf (of_decide_eq_false h))
theorem k_icmp_le {x y off : Int} {t : Nat} (hi : ins mid pc = some (.if_icmp .le off)) (ht : (pc : Int) + off = (t : Int)) (kt : x ≤ y → Ok d mid t ls st M Q) (kf : ¬ x ≤ y → Ok d mid (pc + 3) ls st M Q) : Ok d mid pc ls (vI y :: vI x :: st) M Q := k_icmp (f := fun x y => decide (x ≤ y)) hi rfl ht (fun h => kt (of_decide_eq_true h)) (fun h => kf (of_decide_eq_false h))
theorem k_tab {x dflt lo hi' off : Int} {offs : Array Int} {t : Nat} (hi : ins mid pc = some (.tableswitch dflt lo hi' offs)) (ho : (if x < lo ∨ hi' < x then some dflt else offs[(x - lo).toNat]?) = some off) (ht : (pc : Int) + off = (t : Int)) (k : Ok d mid t ls st M Q) : Ok d mid pc ls (vI x :: st) M Q := ok_step (by
  rw [act_ins hi]
  simp only [actI, aTab]
  split at ho
  · next h =>
    have e := Option.some.inj ho
    rw [if_pos h, e]
    unfold jmp
    rw [if_pos (by omega), show ((pc : Int) + off).toNat = t by omega]
    rfl
  · next h =>
    rw [if_neg h, ho]
    simp only
    unfold jmp
    rw [if_pos (by omega), show ((pc : Int) + off).toNat = t by omega]
    rfl) k
theorem k_look {x dflt off : Int} {ps : Array (Int × Int)} {t : Nat} (hi : ins mid pc = some (.lookupswitch dflt ps)) (hs : (ps.toList.zip (ps.toList.drop 1)).all (fun (a, next) => a.1 < next.1) = true) (ho : Op.lookupswitch.offset ps.toList dflt x = off) (ht : (pc : Int) + off = (t : Int)) (k : Ok d mid t ls st M Q) : Ok d mid pc ls (vI x :: st) M Q := ok_step (by
  rw [act_ins hi]
  simp only [actI, aLook]
  rw [if_pos hs, ho]
  unfold jmp
  rw [if_pos (by omega), show ((pc : Int) + off).toNat = t by omega]
  rfl) k
theorem k_getI {o idx a ci kf n : Nat} {kz : Int} {rf : List (Option Nat)} (hi : ins mid pc = some (.getfield idx)) (ho : mOwn mid = o) (hk : lk poolF (o * 1000 + idx) = some (ci, kf)) (hc : kf < fnum ci ∧ ¬ fty ci kf = 1) (hs : SS[a]? = some (ci, n, rf)) (hz : ((kf : Nat) : Int) = kz) (k : Ok d mid (pc + 3) ls (vI (M a kz) :: st) M Q) : Ok d mid pc ls (vR (some a) :: st) M Q := ok_step (by
  rw [act_ins hi, ho]
  simp only [actI, aGetf, hk, hs]
  rw [if_pos ⟨trivial, hc.1⟩, if_neg hc.2, hz]
  rfl) k
theorem k_getR {o idx a ci kf n r : Nat} {rf : List (Option Nat)} (hi : ins mid pc = some (.getfield idx)) (ho : mOwn mid = o) (hk : lk poolF (o * 1000 + idx) = some (ci, kf)) (hc : kf < fnum ci ∧ fty ci kf = 1) (hs : SS[a]? = some (ci, n, rf)) (hz : rf.getD kf none = some r) (k : Ok d mid (pc + 3) ls (vR (some r) :: st) M Q) : Ok d mid pc ls (vR (some a) :: st) M Q := ok_step (by
  rw [act_ins hi, ho]
  simp only [actI, aGetf, hk, hs]
  rw [if_pos ⟨trivial, hc.1⟩, if_pos hc.2, hz]
  rfl) k
theorem k_putI {o idx a ci kf n : Nat} {kz x : Int} {rf : List (Option Nat)} (hi : ins mid pc = some (.putfield idx)) (ho : mOwn mid = o) (hk : lk poolF (o * 1000 + idx) = some (ci, kf)) (hc : kf < fnum ci ∧ ffi ci kf = false ∧ fty ci kf = 0) (hs : SS[a]? = some (ci, n, rf)) (hz : ((kf : Nat) : Int) = kz) (k : Ok d mid (pc + 3) ls st (mu M a kz x) Q) : Ok d mid pc ls (vI x :: vR (some a) :: st) M Q := ok_step (by
  rw [act_ins hi, ho]
  simp only [actI, aPutf, hk, hs]
  rw [if_pos ⟨trivial, hc.1, Or.inl hc.2.1⟩, if_pos (Or.inl hc.2.2), hz]
  rfl) k
theorem k_putZ {o idx a ci kf n : Nat} {kz x : Int} {rf : List (Option Nat)} (hi : ins mid pc = some (.putfield idx)) (ho : mOwn mid = o) (hk : lk poolF (o * 1000 + idx) = some (ci, kf)) (hc : kf < fnum ci ∧ ffi ci kf = false ∧ fty ci kf = 2) (hs : SS[a]? = some (ci, n, rf)) (hz : ((kf : Nat) : Int) = kz) (hx : x = 0 ∨ x = 1) (k : Ok d mid (pc + 3) ls st (mu M a kz x) Q) : Ok d mid pc ls (vI x :: vR (some a) :: st) M Q := ok_step (by
  rw [act_ins hi, ho]
  simp only [actI, aPutf, hk, hs]
  rw [if_pos ⟨trivial, hc.1, Or.inl hc.2.1⟩, if_pos (Or.inr ⟨hc.2.2, hx⟩), hz]
  rfl) k
theorem k_gets {o idx j : Nat} (hi : ins mid pc = some (.getstatic idx)) (ho : mOwn mid = o) (hk : lk poolS (o * 1000 + idx) = some j) (hj : j < 3) (k : Ok d mid (pc + 3) ls (vR (some (1000000 + j)) :: st) M Q) : Ok d mid pc ls st M Q := ok_step (by
  rw [act_ins hi, ho]
  simp only [actI, aGets, hk]
  rw [if_pos hj]
  rfl) k
theorem SS_len : SS.length = 289 := by decide +kernel
theorem S_small {a : Nat} {h : Sh} (hs : SS[a]? = some h) : ¬ 1000000 ≤ a := by
  have h1 := (List.getElem?_eq_some_iff.mp hs).1
  rw [SS_len] at h1
  omega
theorem k_iald {a n : Nat} {i : Int} {rf : List (Option Nat)} (hi : ins mid pc = some .iaload) (hs : SS[a]? = some (20, n, rf)) (hb : 0 ≤ i ∧ i < (n : Int)) (k : Ok d mid (pc + 1) ls (vI (M a i) :: st) M Q) : Ok d mid pc ls (vI i :: vR (some a) :: st) M Q := ok_step (by
  rw [act_ins hi]
  simp only [actI, aIald, hs]
  rw [if_pos hb.1, if_neg (S_small hs), if_pos ⟨trivial, hb.2⟩]
  rfl) k
theorem k_ialdS {j : Nat} {i x : Int} (hi : ins mid pc = some .iaload) (hj : j < 3) (h0 : 0 ≤ i) (hx : (sT j)[i.toNat]? = some x) (k : Ok d mid (pc + 1) ls (vI x :: st) M Q) : Ok d mid pc ls (vI i :: vR (some (1000000 + j)) :: st) M Q := ok_step (by
  rw [act_ins hi]
  simp only [actI, aIald]
  rw [if_pos h0, if_pos (by omega), if_pos (by omega), Nat.add_sub_cancel_left, hx]
  rfl) k
theorem k_iast {a n : Nat} {i x : Int} {rf : List (Option Nat)} (hi : ins mid pc = some .iastore) (hs : SS[a]? = some (20, n, rf)) (hb : 0 ≤ i ∧ i < (n : Int)) (k : Ok d mid (pc + 1) ls st (mu M a i x) Q) : Ok d mid pc ls (vI x :: vI i :: vR (some a) :: st) M Q := ok_step (by
  rw [act_ins hi]
  simp only [actI, aIast, hs]
  rw [if_pos ⟨trivial, hb.1, hb.2⟩]
  rfl) k
theorem k_bald {a n : Nat} {i : Int} {rf : List (Option Nat)} (hi : ins mid pc = some .baload) (hs : SS[a]? = some (21, n, rf)) (hb : 0 ≤ i ∧ i < (n : Int)) (k : Ok d mid (pc + 1) ls (vI (M a i) :: st) M Q) : Ok d mid pc ls (vI i :: vR (some a) :: st) M Q := ok_step (by
  rw [act_ins hi]
  simp only [actI, aBald, hs]
  rw [if_pos ⟨trivial, hb.1, hb.2⟩]
  rfl) k
theorem k_bast {a n : Nat} {i x : Int} {rf : List (Option Nat)} (hi : ins mid pc = some .bastore) (hs : SS[a]? = some (21, n, rf)) (hb : 0 ≤ i ∧ i < (n : Int)) (hx : x = 0 ∨ x = 1) (k : Ok d mid (pc + 1) ls st (mu M a i x) Q) : Ok d mid pc ls (vI x :: vI i :: vR (some a) :: st) M Q := ok_step (by
  rw [act_ins hi]
  simp only [actI, aBast, hs]
  rw [if_pos ⟨trivial, hb.1, hb.2, hx⟩]
  rfl) k
theorem k_aald {a n kd r : Nat} {i : Int} {rf : List (Option Nat)} (hi : ins mid pc = some .aaload) (hs : SS[a]? = some (kd, n, rf)) (hk : kd = 22 ∨ kd = 23 ∨ kd = 24) (hb : 0 ≤ i ∧ i < (n : Int)) (hr : rf.getD i.toNat none = some r) (k : Ok d mid (pc + 1) ls (vR (some r) :: st) M Q) : Ok d mid pc ls (vI i :: vR (some a) :: st) M Q := ok_step (by
  rw [act_ins hi]
  simp only [actI, aAald, hs]
  rw [if_pos ⟨hk, hb.1, hb.2⟩, hr]
  rfl) k
theorem k_alen {a n kd : Nat} {z : Int} {rf : List (Option Nat)} (hi : ins mid pc = some .arraylength) (hs : SS[a]? = some (kd, n, rf)) (hk : 20 ≤ kd ∧ kd ≤ 24 ∧ n < 2147483648) (hz : (n : Int) = z) (k : Ok d mid (pc + 1) ls (vI z :: st) M Q) : Ok d mid pc ls (vR (some a) :: st) M Q := ok_step (by
  rw [act_ins hi]
  simp only [actI, aAlen, hs]
  rw [if_pos hk, hz]
  rfl) k
def vFacts (mid n o : Nat) : Prop := mid < 1000 ∧ mS mid = false ∧ (mY mid).name ≠ "<init>" ∧ mP mid = n ∧ mOwn mid = o
def sFacts (mid n : Nat) : Prop := mid < 1000 ∧ mS mid = true ∧ mP mid = n
theorem k_invV {o idx mid' n o' a nn : Nat} {av rest : List Vv} {el : Lv} {rf : List (Option Nat)} (hi : ins mid pc = some (.invokevirtual idx)) (ho : mOwn mid = o) (hk : lk poolM (o * 1000 + idx) = some mid') (hv : vFacts mid' n o') (hd : st.drop n = vR (some a) :: rest) (hs : SS[a]? = some (o', nn, rf)) (hc : Nat.ble (catS rest) 8 = true) (hn : Nat.ble n st.length = true) (ht : vR (some a) :: (st.take n).reverse = av) (he : entryL mid' av = el) (hl : Nat.ble (eLoc av).length (mL mid') = true)
    (k : Ok d mid' 0 el [] M (fun r M' => Ok (d + 1) mid (pc + 3) ls (r.toList ++ rest) M' Q)) : Ok (d + 1) mid pc ls st M Q := by
  obtain ⟨v1, v2, v3, v4, v5⟩ := hv
  refine ok_call (mid' := mid') (av := av) (rest := rest) ?_ he hl k
  rw [act_ins hi, ho]
  simp only [actI, aInvV, hk]
  rw [if_pos ⟨v1, v2, v3⟩, v4, hd]
  simp only [hs]
  rw [if_pos ⟨v5.symm, Nat.le_of_ble_eq_true hc, Nat.le_of_ble_eq_true hn⟩, ht]
theorem k_invS {o idx mid' n : Nat} {av rest : List Vv} {el : Lv} (hi : ins mid pc = some (.invokestatic idx)) (ho : mOwn mid = o) (hk : lk poolM (o * 1000 + idx) = some mid') (hv : sFacts mid' n) (hd : st.drop n = rest) (hc : Nat.ble (catS rest) 8 = true) (hn : Nat.ble n st.length = true) (ht : (st.take n).reverse = av) (he : entryL mid' av = el) (hl : Nat.ble (eLoc av).length (mL mid') = true)
    (k : Ok d mid' 0 el [] M (fun r M' => Ok (d + 1) mid (pc + 3) ls (r.toList ++ rest) M' Q)) : Ok (d + 1) mid pc ls st M Q := by
  obtain ⟨v1, v2, v4⟩ := hv
  refine ok_call (mid' := mid') (av := av) (rest := rest) ?_ he hl k
  rw [act_ins hi, ho]
  simp only [actI, aInvS, hk]
  rw [if_neg (by omega), if_neg (by omega), if_neg (by omega), v4, hd]
  rw [if_pos ⟨v1, v2, Nat.le_of_ble_eq_true hc, Nat.le_of_ble_eq_true hn⟩, ht]
theorem k_max {o idx : Nat} {x y : Int} (hi : ins mid pc = some (.invokestatic idx)) (ho : mOwn mid = o) (hk : lk poolM (o * 1000 + idx) = some 1002) (hc : Nat.ble (catS st) 8 = true) (k : Ok d mid (pc + 3) ls (vI (if x < y then y else x) :: st) M Q) : Ok d mid pc ls (vI y :: vI x :: st) M Q := ok_step (by
  rw [act_ins hi, ho]
  simp only [actI, aInvS, hk]
  rw [if_neg (by decide), if_pos trivial, if_pos (Nat.le_of_ble_eq_true hc)]
  rfl) k
theorem k_min {o idx : Nat} {x y : Int} (hi : ins mid pc = some (.invokestatic idx)) (ho : mOwn mid = o) (hk : lk poolM (o * 1000 + idx) = some 1003) (hc : Nat.ble (catS st) 8 = true) (k : Ok d mid (pc + 3) ls (vI (if y < x then y else x) :: st) M Q) : Ok d mid pc ls (vI y :: vI x :: st) M Q := ok_step (by
  rw [act_ins hi, ho]
  simp only [actI, aInvS, hk]
  rw [if_neg (by decide), if_neg (by decide), if_pos trivial, if_pos (Nat.le_of_ble_eq_true hc)]
  rfl) k
theorem k_copy {o idx a b na nb : Nat} {n dp sp : Int} {ra rb : List (Option Nat)} (hi : ins mid pc = some (.invokestatic idx)) (ho : mOwn mid = o) (hk : lk poolM (o * 1000 + idx) = some 1000) (hsa : SS[a]? = some (20, na, ra)) (hsb : SS[b]? = some (20, nb, rb)) (hn : 0 ≤ n ∧ 0 ≤ sp ∧ 0 ≤ dp ∧ sp + n ≤ na ∧ dp + n ≤ nb) (hc : Nat.ble (catS st) 8 = true) (k : Ok d mid (pc + 3) ls st (mcp M a sp b dp n) Q) : Ok d mid pc ls (vI n :: vI dp :: vR (some b) :: vI sp :: vR (some a) :: st) M Q := ok_step (by
  rw [act_ins hi, ho]
  simp only [actI, aInvS, hk, hsa, hsb]
  rw [if_pos trivial, if_pos ⟨trivial, trivial, hn.1, hn.2.1, hn.2.2.1, hn.2.2.2.1, hn.2.2.2.2, Nat.le_of_ble_eq_true hc⟩]
  rfl) k
theorem k_iret {x : Int} (hi : ins mid pc = some .ireturn) (hr : mR mid = some .int) (k : Q (some (vI x)) M) : Ok d mid pc ls [vI x] M Q := ok_ret (by rw [act_ins hi, hr]; rfl) k
theorem k_zret {x : Int} (hi : ins mid pc = some .ireturn) (hr : mR mid = some .boolean) (hx : x = 0 ∨ x = 1) (k : Q (some (vI x)) M) : Ok d mid pc ls [vI x] M Q := ok_ret (by rw [act_ins hi, hr]; show (if _ then _ else _) = _; rw [if_pos hx]) k
theorem k_lret {x : Int} (hi : ins mid pc = some .lreturn) (hr : mR mid = some .long) (k : Q (some (vL x)) M) : Ok d mid pc ls [vL x] M Q := ok_ret (by rw [act_ins hi, hr]; rfl) k
theorem k_aret {x : Nat} {C : String} (hi : ins mid pc = some .areturn) (hr : mR mid = some (.object C)) (k : Q (some (vR (some x))) M) : Ok d mid pc ls [vR (some x)] M Q := ok_ret (by rw [act_ins hi, hr]; rfl) k
theorem k_vret (hi : ins mid pc = some .return_) (hr : mR mid = none) (k : Q none M) : Ok d mid pc ls [] M Q := ok_ret (by rw [act_ins hi, hr]; rfl) k
end OKS
