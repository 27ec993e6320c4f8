/-! CONSTRUCTORS: the cells grow -/
def OkS (d mid pc : Nat) (ls : Lv) (st : List Vv) (S : List Sh) (M : Mem) (Q : Option Vv → List Sh → Mem → Prop) : Prop := ∃ n r S' M', run n d mid pc ls st S M = some (r, S', M') ∧ Q r S' M'
/-- from n on all is 0 -/
def Zr (M : Mem) (n : Nat) : Prop := ∀ (b : Nat) (j : Int), n ≤ b → M b j = 0
theorem Zr.s {M : Mem} {n k : Nat} (h : Zr M n) (hk : n ≤ k) : mzs M k = M := by
  funext b j
  unfold mzs
  split
  · exact (h b j (by omega)).symm
  · rfl
theorem gx {P L : List Sh} {a : Nat} (hP : P.length = a) (k : Nat) : (P ++ L)[a + k]? = L[k]? := by
  subst hP
  rw [List.getElem?_append_right (by omega), Nat.add_sub_cancel_left]
theorem sx {P L : List Sh} {a : Nat} (hP : P.length = a) (k : Nat) (x : Sh) : (P ++ L).set (a + k) x = P ++ L.set k x := by
  subst hP
  rw [List.set_append_right _ _ (by omega), Nat.add_sub_cancel_left]
theorem lx {P L : List Sh} {a : Nat} (hP : P.length = a) : (P ++ L).length = a + L.length := by
  rw [List.length_append, hP]
def iFacts (mid n : Nat) : Prop := mid < 1000 ∧ mS mid = false ∧ (mY mid).name = "<init>" ∧ mP mid = n
section OKSS
variable {d mid pc pc' : Nat} {ls ls' : Lv} {st st' : List Vv} {S S' : List Sh} {M M' : Mem} {Q : Option Vv → List Sh → Mem → Prop}
theorem okS_step (ha : act mid pc ls st S M = some (.inl (pc', ls', st', S', M'))) (k : OkS d mid pc' ls' st' S' M' Q) : OkS d mid pc ls st S M Q := by
  obtain ⟨n, r, S2, M2, h1, h2⟩ := k
  refine ⟨n + 1, r, S2, M2, ?_, h2⟩
  unfold run
  rw [ha]
  exact h1
theorem okS_ret {r : Option Vv} (ha : act mid pc ls st S M = some (.inr (.inr r))) (k : Q r S M) : OkS d mid pc ls st S M Q := by
  refine ⟨1, r, S, M, ?_, k⟩
  unfold run
  rw [ha]
theorem okS_call {mid' : Nat} {av rest : List Vv} {el : Lv} (ha : act mid pc ls st S M = some (.inr (.inl (mid', av, rest)))) (he : entryL mid' av = el) (hl : Nat.ble (eLoc av).length (mL mid') = true) (k : OkS d mid' 0 el [] S M (fun r S' M' => OkS (d + 1) mid (pc + 3) ls (r.toList ++ rest) S' M' Q)) : OkS (d + 1) mid pc ls st S M Q := by
  obtain ⟨n1, r1, S1, M1, h1, n2, r2, S2, M2, h3, h4⟩ := k
  refine ⟨n1 + n2 + 1, r2, S2, M2, ?_, h4⟩
  unfold run
  rw [ha]
  simp only
  rw [if_pos (Nat.le_of_ble_eq_true hl), he, run_mono _ _ _ _ _ _ _ _ _ h1 n2]
  simp only
  rw [Nat.add_comm n1 n2]
  exact run_mono _ _ _ _ _ _ _ _ _ h3 n1
theorem actS_ins {i : Instr} (hi : ins mid pc = some i) : act mid pc ls st S M = actI (mOwn mid) (decide ((mY mid).name = "<init>")) (mR mid) i pc ls st S M := by
  unfold act
  rw [hi]
theorem j_iconst {n : Int} (hi : ins mid pc = some (.iconst n)) (h : inR n) (k : OkS d mid (pc + 1) ls (vI n :: st) S M Q) : OkS d mid pc ls st S M Q := okS_step (by rw [actS_ins hi]; show pI _ _ _ _ _ _ = _; unfold pI; rw [if_pos h]; rfl) k
theorem j_bipush {n : Int} (hi : ins mid pc = some (.bipush n)) (h : -128 ≤ n ∧ n ≤ 127) (k : OkS d mid (pc + 2) ls (vI n :: st) S M Q) : OkS d mid pc ls st S M Q := okS_step (by rw [actS_ins hi]; show (if _ then _ else _) = _; rw [if_pos h]; rfl) k
theorem j_sipush {n : Int} (hi : ins mid pc = some (.sipush n)) (h : -32768 ≤ n ∧ n ≤ 32767) (k : OkS d mid (pc + 3) ls (vI n :: st) S M Q) : OkS d mid pc ls st S M Q := okS_step (by rw [actS_ins hi]; show (if _ then _ else _) = _; rw [if_pos h]; rfl) k
theorem j_iload_n {j : Fin 4} {x : Int} (hi : ins mid pc = some (.iload_n j)) (h : ls[j.val]? = some (some (vI x))) (k : OkS d mid (pc + 1) ls (vI x :: st) S M Q) : OkS d mid pc ls st S M Q := okS_step (by rw [actS_ins hi]; show ldI _ _ _ _ _ _ = _; unfold ldI; rw [h]; rfl) k
theorem j_aload_n {j : Fin 4} {x : Nat} (hi : ins mid pc = some (.aload_n j)) (h : ls[j.val]? = some (some (vR (some x)))) (k : OkS d mid (pc + 1) ls (vR (some x) :: st) S M Q) : OkS d mid pc ls st S M Q := okS_step (by rw [actS_ins hi]; show ldA _ _ _ _ _ _ = _; unfold ldA; rw [h]; rfl) k
theorem j_istore_n {j : Fin 4} {x : Int} (hi : ins mid pc = some (.istore_n j)) (h : st1 ls j.val (vI x) = some ls') (k : OkS d mid (pc + 1) ls' st S M Q) : OkS d mid pc ls (vI x :: st) S M Q := okS_step (by rw [actS_ins hi]; simp only [actI, stI, h]; rfl) k
theorem j_iinc {j : Nat} {x n : Int} (hi : ins mid pc = some (.iinc j n)) (hx : ls[j]? = some (some (vI x))) (hr : -2147483648 ≤ n ∧ n ≤ 2147483647 ∧ -2147483648 ≤ x + n ∧ x + n ≤ 2147483647) (h : st1 ls j (vI (x + n)) = some ls') (k : OkS d mid (pc + 3) ls' st S M Q) : OkS d mid pc ls st S M Q := okS_step (by rw [actS_ins hi]; simp only [actI, aInc, hx, h]; rw [if_pos ⟨⟨hr.1, hr.2.1⟩, hr.2.2⟩]; rfl) k
theorem j_dup {x : Nat} (hi : ins mid pc = some .dup) (k : OkS d mid (pc + 1) ls (vR (some x) :: vR (some x) :: st) S M Q) : OkS d mid pc ls (vR (some x) :: st) S M Q := okS_step (by rw [actS_ins hi]; rfl) k
theorem j_goto {off : Int} {t : Nat} (hi : ins mid pc = some (.goto off)) (ht : (pc : Int) + off = (t : Int)) (k : OkS d mid t ls st S M Q) : OkS d mid pc ls st S M Q := okS_step (by
  rw [actS_ins hi]
  simp only [actI]
  unfold jmp
  rw [if_pos (by omega), show ((pc : Int) + off).toNat = t by omega]
  rfl) k
theorem j_geT {x y off : Int} {t : Nat} (hi : ins mid pc = some (.if_icmp .ge off)) (ht : (pc : Int) + off = (t : Int)) (hc : y ≤ x) (k : OkS d mid t ls st S M Q) : OkS d mid pc ls (vI y :: vI x :: st) S M Q := okS_step (by
  rw [actS_ins hi]
  simp only [actI, cI]
  unfold br
  rw [if_pos (by omega), if_pos (decide_eq_true hc), show ((pc : Int) + off).toNat = t by omega]
  rfl) k
theorem j_geF {x y off : Int} {t : Nat} (hi : ins mid pc = some (.if_icmp .ge off)) (ht : (pc : Int) + off = (t : Int)) (hc : ¬ y ≤ x) (k : OkS d mid (pc + 3) ls st S M Q) : OkS d mid pc ls (vI y :: vI x :: st) S M Q := okS_step (by
  rw [actS_ins hi]
  simp only [actI, cI]
  unfold br
  rw [if_pos (by omega), if_neg (by simpa using hc)]
  rfl) k
theorem j_getR {o idx a ci kf n r : Nat} {rf : List (Option Nat)} (hi : ins mid pc = some (.getfield idx)) (ho : mOwn mid = o) (hk : lk poolF (o * 1000 + idx) = some (ci, kf)) (hc : kf < fnum ci ∧ fty ci kf = 1) (hs : S[a]? = some (ci, n, rf)) (hz : rf.getD kf none = some r) (k : OkS d mid (pc + 3) ls (vR (some r) :: st) S M Q) : OkS d mid pc ls (vR (some a) :: st) S M Q := okS_step (by
  rw [actS_ins hi, ho]
  simp only [actI, aGetf, hk, hs]
  rw [if_pos ⟨trivial, hc.1⟩, if_pos hc.2, hz]
  rfl) k
theorem j_putR {o idx a ci kf n r : Nat} {rf : List (Option Nat)} (hi : ins mid pc = some (.putfield idx)) (ho : mOwn mid = o) (hn : (mY mid).name = "<init>") (hk : lk poolF (o * 1000 + idx) = some (ci, kf)) (hc : kf < fnum ci ∧ o = ci ∧ fty ci kf = 1) (hs : S[a]? = some (ci, n, rf)) (hr : Nat.blt kf rf.length = true) (hS : S.set a (ci, n, rf.set kf (some r)) = S') (k : OkS d mid (pc + 3) ls st S' M Q) : OkS d mid pc ls (vR (some r) :: vR (some a) :: st) S M Q := okS_step (S' := S') (by
  rw [actS_ins hi, ho]
  simp only [actI, aPutf, hk, hs]
  rw [if_pos ⟨trivial, hc.1, Or.inr ⟨by rw [hn]; rfl, hc.2.1⟩⟩]
  show (if _ then _ else _) = _
  rw [if_pos ⟨hc.2.2, Nat.blt_eq.mp hr⟩, hS]
  rfl) k
theorem j_iast {a n : Nat} {i x : Int} {rf : List (Option Nat)} (hi : ins mid pc = some .iastore) (hs : S[a]? = some (20, n, rf)) (hb : 0 ≤ i ∧ i < (n : Int)) (k : OkS d mid (pc + 1) ls st S (mu M a i x) Q) : OkS d mid pc ls (vI x :: vI i :: vR (some a) :: st) S M Q := okS_step (by
  rw [actS_ins hi]
  simp only [actI, aIast, hs]
  rw [if_pos ⟨trivial, hb.1, hb.2⟩]
  rfl) k
theorem j_aast {a v n kd kv m : Nat} {i : Int} {rf rv : List (Option Nat)} (hi : ins mid pc = some .aastore) (hs : S[a]? = some (kd, n, rf)) (hv : S[v]? = some (kv, m, rv)) (hk : (kd = 23 ∧ kv = 5) ∨ (kd = 24 ∧ kv = 6)) (hb : 0 ≤ i ∧ i < (n : Int) ∧ i.toNat < rf.length) (hS : S.set a (kd, n, rf.set i.toNat (some v)) = S') (k : OkS d mid (pc + 1) ls st S' M Q) : OkS d mid pc ls (vR (some v) :: vI i :: vR (some a) :: st) S M Q := okS_step (S' := S') (by
  rw [actS_ins hi]
  simp only [actI, aAast, hs, hv]
  rw [if_pos ⟨hk, hb.1, hb.2.1, hb.2.2⟩, hS]
  rfl) k
theorem j_aald {a n kd r : Nat} {i : Int} {rf : List (Option Nat)} (hi : ins mid pc = some .aaload) (hs : S[a]? = some (kd, n, rf)) (hk : kd = 22 ∨ kd = 23 ∨ kd = 24) (hb : 0 ≤ i ∧ i < (n : Int)) (hr : rf.getD i.toNat none = some r) (k : OkS d mid (pc + 1) ls (vR (some r) :: st) S M Q) : OkS d mid pc ls (vI i :: vR (some a) :: st) S M Q := okS_step (by
  rw [actS_ins hi]
  simp only [actI, aAald, hs]
  rw [if_pos ⟨hk, hb.1, hb.2⟩, hr]
  rfl) k
theorem j_alen {a n kd : Nat} {z : Int} {rf : List (Option Nat)} (hi : ins mid pc = some .arraylength) (hs : S[a]? = some (kd, n, rf)) (hk : 20 ≤ kd ∧ kd ≤ 24 ∧ n < 2147483648) (hz : (n : Int) = z) (k : OkS d mid (pc + 1) ls (vI z :: st) S M Q) : OkS d mid pc ls (vR (some a) :: st) S M Q := okS_step (by
  rw [actS_ins hi]
  simp only [actI, aAlen, hs]
  rw [if_pos hk, hz]
  rfl) k
theorem j_newI {n : Int} {a nn : Nat} (hi : ins mid pc = some (.newarray .int)) (hl : S.length = a) (ha : a < 1000000) (hn : 0 ≤ n ∧ n ≤ 10000 ∧ n.toNat = nn) (hz : Zr M a) (hS : S ++ [(20, nn, [])] = S') (k : OkS d mid (pc + 2) ls (vR (some a) :: st) S' M Q) : OkS d mid pc ls (vI n :: st) S M Q := okS_step (S' := S') (by
  rw [actS_ins hi]
  simp only [actI, aNewa, hl]
  rw [if_pos ⟨hn.1, hn.2.1, ha⟩, hn.2.2, hS, hz.s (Nat.le_refl _)]
  rfl) k
theorem j_newZ {n : Int} {a nn : Nat} (hi : ins mid pc = some (.newarray .boolean)) (hl : S.length = a) (ha : a < 1000000) (hn : 0 ≤ n ∧ n ≤ 10000 ∧ n.toNat = nn) (hz : Zr M a) (hS : S ++ [(21, nn, [])] = S') (k : OkS d mid (pc + 2) ls (vR (some a) :: st) S' M Q) : OkS d mid pc ls (vI n :: st) S M Q := okS_step (S' := S') (by
  rw [actS_ins hi]
  simp only [actI, aNewa, hl]
  rw [if_pos ⟨hn.1, hn.2.1, ha⟩, hn.2.2, hS, hz.s (Nat.le_refl _)]
  rfl) k
theorem j_newq {o idx ci : Nat} {n : Int} {a nn : Nat} (hi : ins mid pc = some (.anewarray idx)) (ho : mOwn mid = o) (hk : lk poolK (o * 1000 + idx) = some ci) (hc : ci = 5 ∨ ci = 6) (hl : S.length = a) (ha : a < 1000000) (hn : 0 ≤ n ∧ n ≤ 10000 ∧ n.toNat = nn) (hz : Zr M a) (hS : S ++ [(ci + 18, nn, List.replicate nn none)] = S') (k : OkS d mid (pc + 3) ls (vR (some a) :: st) S' M Q) : OkS d mid pc ls (vI n :: st) S M Q := okS_step (S' := S') (by
  rw [actS_ins hi, ho]
  simp only [actI, aNewq, hk, hl]
  rw [if_pos ⟨hn.1, hn.2.1, hc, ha⟩, hn.2.2, hS, hz.s (Nat.le_refl _)]
  rfl) k
theorem j_newm {o idx : Nat} {k' n : Int} {a nn kk : Nat} (hi : ins mid pc = some (.multianewarray idx 2)) (ho : mOwn mid = o) (hk : lk poolK (o * 1000 + idx) = some 22) (hl : S.length = a) (ha : a + nn < 1000000) (hn : 0 ≤ n ∧ n ≤ 10000 ∧ n.toNat = nn) (hk' : 0 ≤ k' ∧ k' ≤ 10000 ∧ k'.toNat = kk) (hz : Zr M a) (hS : S ++ ((22, nn, (List.range nn).map (fun i => some (a + 1 + i))) :: List.replicate nn (20, kk, [])) = S') (k : OkS d mid (pc + 4) ls (vR (some a) :: st) S' M Q) : OkS d mid pc ls (vI k' :: vI n :: st) S M Q := okS_step (S' := S') (by
  rw [actS_ins hi, ho]
  simp only [actI, aNewm, hk, hl, hn.2.2, hk'.2.2]
  rw [if_pos ⟨hn.1, hn.2.1, hk'.1, hk'.2.1, trivial, ha⟩, hS, hz.s (Nat.le_refl _)]
  rfl) k
theorem j_new {o idx ci a : Nat} (hi : ins mid pc = some (.new idx)) (ho : mOwn mid = o) (hk : lk poolK (o * 1000 + idx) = some ci) (hc : ci < 9) (hl : S.length = a) (ha : a < 1000000) (hz : Zr M a) (hS : S ++ [(ci, fnum ci, List.replicate (fnum ci) none)] = S') (k : OkS d mid (pc + 3) ls (vR (some a) :: st) S' M Q) : OkS d mid pc ls st S M Q := okS_step (S' := S') (by
  rw [actS_ins hi, ho]
  simp only [actI, aNew, hk, hl]
  rw [if_pos ⟨hc, ha⟩, hS, hz.s (Nat.le_refl _)]
  rfl) k
theorem j_obj {o idx a : Nat} (hi : ins mid pc = some (.invokespecial idx)) (ho : mOwn mid = o) (hk : lk poolM (o * 1000 + idx) = some 1001) (hc : Nat.ble (catS st) 8 = true) (k : OkS d mid (pc + 3) ls st S M Q) : OkS d mid pc ls (vR (some a) :: st) S M Q := okS_step (by
  rw [actS_ins hi, ho]
  simp only [actI, aInvI, hk]
  rw [if_pos trivial, if_pos (Nat.le_of_ble_eq_true hc)]
  rfl) k
theorem j_init {o idx mid' n a : Nat} {av rest : List Vv} {el : Lv} (hi : ins mid pc = some (.invokespecial idx)) (ho : mOwn mid = o) (hk : lk poolM (o * 1000 + idx) = some mid') (hv : iFacts mid' n) (hd : st.drop n = vR (some a) :: rest) (hc : Nat.ble (catS rest) 8 = true) (hn : Nat.ble n st.length = true) (ht : vR (some a) :: (st.take n).reverse = av) (he : entryL mid' av = el) (hl : Nat.ble (eLoc av).length (mL mid') = true)
    (k : OkS d mid' 0 el [] S M (fun r S' M' => OkS (d + 1) mid (pc + 3) ls (r.toList ++ rest) S' M' Q)) : OkS (d + 1) mid pc ls st S M Q := by
  obtain ⟨v1, v2, v3, v4⟩ := hv
  refine okS_call (mid' := mid') (av := av) (rest := rest) ?_ he hl k
  rw [actS_ins hi, ho]
  simp only [actI, aInvI, hk]
  rw [if_neg (by omega), v4, if_pos ⟨v1, v2, v3, Nat.le_of_ble_eq_true hn⟩, hd]
  show (if _ then _ else _) = _
  rw [if_pos (Nat.le_of_ble_eq_true hc), ht]
theorem j_vret (hi : ins mid pc = some .return_) (hr : mR mid = none) (k : Q none S M) : OkS d mid pc ls [] S M Q := okS_ret (by rw [actS_ins hi, hr]; rfl) k
end OKSS
