section NR
variable {pc : Nat} {ls : Lv} {st : List Vv} {S : List Sh} {M : Mem} {q : (Nat × List Vv × List Vv) ⊕ Option Vv}
theorem nr_go (h : go pc ls st S M = some (.inr q)) : False := by unfold go at h; cases h
theorem nr_pI {x : Int} (h : pI pc ls st S M x = some (.inr q)) : False := by unfold pI at h; split at h <;> first | exact nr_go h | cases h
theorem nr_pL {x : Int} (h : pL pc ls st S M x = some (.inr q)) : False := by unfold pL at h; split at h <;> first | exact nr_go h | cases h
theorem nr_jmp {x : Int} (h : jmp pc x ls st S M = some (.inr q)) : False := by unfold jmp at h; split at h <;> first | exact nr_go h | cases h
theorem nr_br {b : Bool} {x : Int} (h : br b pc x ls st S M = some (.inr q)) : False := by
  unfold br at h; split at h <;> first | cases h | (split at h <;> exact nr_go h)
theorem nr_bI {f : Int → Int → Option Int} (h : bI pc ls st S M f = some (.inr q)) : False := by
  unfold bI at h; split at h <;> first | cases h | (split at h <;> first | exact nr_pI h | cases h)
theorem nr_bL {f : Int → Int → Option Int} (h : bL pc ls st S M f = some (.inr q)) : False := by
  unfold bL at h; split at h <;> first | cases h | (split at h <;> first | exact nr_pL h | cases h)
theorem nr_uI {f : Int → Int} (h : uI pc ls st S M f = some (.inr q)) : False := by
  unfold uI at h; split at h <;> first | exact nr_pI h | cases h
theorem nr_ldI {k : Nat} (h : ldI pc k ls st S M = some (.inr q)) : False := by
  unfold ldI at h; split at h <;> first | exact nr_go h | cases h
theorem nr_ldL {k : Nat} (h : ldL pc k ls st S M = some (.inr q)) : False := by
  unfold ldL at h; split at h <;> first | exact nr_go h | cases h
theorem nr_ldA {k : Nat} (h : ldA pc k ls st S M = some (.inr q)) : False := by
  unfold ldA at h; split at h <;> first | exact nr_go h | cases h
theorem nr_stI {k : Nat} (h : stI pc k ls st S M = some (.inr q)) : False := by
  unfold stI at h; split at h <;> first | cases h | (split at h <;> first | exact nr_go h | cases h)
theorem nr_stL {k : Nat} (h : stL pc k ls st S M = some (.inr q)) : False := by
  unfold stL at h; split at h <;> first | cases h | (split at h <;> first | exact nr_go h | cases h)
theorem nr_stA {k : Nat} (h : stA pc k ls st S M = some (.inr q)) : False := by
  unfold stA at h; split at h <;> first | cases h | (split at h <;> first | exact nr_go h | cases h)
theorem nr_c0 {x : Int} {f : Int → Bool} (h : c0 pc x ls st S M f = some (.inr q)) : False := by
  unfold c0 at h; split at h <;> first | exact nr_br h | cases h
theorem nr_cI {x : Int} {f : Int → Int → Bool} (h : cI pc x ls st S M f = some (.inr q)) : False := by
  unfold cI at h; split at h <;> first | exact nr_br h | cases h
theorem nr_getf {k : Nat} (h : aGetf k pc ls st S M = some (.inr q)) : False := by
  unfold aGetf at h
  split at h
  · split at h
    · split at h
      · split at h <;> exact nr_go h
      · cases h
    · cases h
  · cases h
theorem nr_putf {own k : Nat} {ini : Bool} (h : aPutf own ini k pc ls st S M = some (.inr q)) : False := by
  unfold aPutf at h
  split at h
  · split at h
    · split at h
      · split at h
        · split at h
          · exact nr_go h
          · cases h
        · split at h
          · exact nr_go h
          · cases h
        · cases h
      · cases h
    · cases h
  · cases h
theorem nr_iald (h : aIald pc ls st S M = some (.inr q)) : False := by
  unfold aIald at h
  split at h
  · split at h
    · split at h
      · split at h
        · split at h
          · exact nr_go h
          · cases h
        · cases h
      · split at h
        · split at h
          · exact nr_go h
          · cases h
        · cases h
    · cases h
  · cases h
theorem nr_iast (h : aIast pc ls st S M = some (.inr q)) : False := by
  unfold aIast at h; split at h <;> first | cases h | (split at h <;> first | cases h | (split at h <;> first | exact nr_go h | cases h))
theorem nr_bald (h : aBald pc ls st S M = some (.inr q)) : False := by
  unfold aBald at h; split at h <;> first | cases h | (split at h <;> first | cases h | (split at h <;> first | exact nr_go h | cases h))
theorem nr_bast (h : aBast pc ls st S M = some (.inr q)) : False := by
  unfold aBast at h; split at h <;> first | cases h | (split at h <;> first | cases h | (split at h <;> first | exact nr_go h | cases h))
theorem nr_aald (h : aAald pc ls st S M = some (.inr q)) : False := by
  unfold aAald at h; split at h <;> first | cases h | (split at h <;> first | cases h | (split at h <;> first | exact nr_go h | cases h))
theorem nr_alen (h : aAlen pc ls st S M = some (.inr q)) : False := by
  unfold aAlen at h; split at h <;> first | cases h | (split at h <;> first | cases h | (split at h <;> first | exact nr_go h | cases h))
theorem nr_aast (h : aAast pc ls st S M = some (.inr q)) : False := by
  unfold aAast at h
  split at h
  · split at h
    · split at h
      · exact nr_go h
      · cases h
    · cases h
  · cases h
theorem nr_newa {k : Nat} (h : aNewa k pc ls st S M = some (.inr q)) : False := by
  unfold aNewa at h; split at h <;> first | cases h | (split at h <;> first | exact nr_go h | cases h)
theorem nr_newq {k : Nat} (h : aNewq k pc ls st S M = some (.inr q)) : False := by
  unfold aNewq at h; split at h <;> first | cases h | (split at h <;> first | exact nr_go h | cases h)
theorem nr_newm {k : Nat} (h : aNewm k pc ls st S M = some (.inr q)) : False := by
  unfold aNewm at h; split at h <;> first | cases h | (split at h <;> first | exact nr_go h | cases h)
theorem nr_newO {k : Nat} (h : aNew k pc ls st S M = some (.inr q)) : False := by
  unfold aNew at h; split at h <;> first | cases h | (split at h <;> first | exact nr_go h | cases h)
theorem nr_tab {dflt lo hi : Int} {offs : Array Int} (h : aTab dflt lo hi offs pc ls st S M = some (.inr q)) : False := by
  unfold aTab at h; split at h <;> first | cases h | (split at h <;> first | exact nr_jmp h | (split at h <;> first | exact nr_jmp h | cases h))
theorem nr_look {dflt : Int} {ps : Array (Int × Int)} (h : aLook dflt ps pc ls st S M = some (.inr q)) : False := by
  unfold aLook at h; split at h <;> first | cases h | (split at h <;> first | exact nr_jmp h | cases h)
theorem nr_dup (h : aDup pc ls st S M = some (.inr q)) : False := by
  unfold aDup at h; split at h <;> first | cases h | (split at h <;> first | exact nr_go h | cases h)
theorem nr_dup2 (h : aDup2 pc ls st S M = some (.inr q)) : False := by
  unfold aDup2 at h; split at h <;> first | cases h | (split at h <;> first | exact nr_go h | cases h)
theorem nr_inc {k : Nat} {n : Int} (h : aInc pc k n ls st S M = some (.inr q)) : False := by
  unfold aInc at h; split at h <;> first | cases h | (split at h <;> first | cases h | (split at h <;> first | exact nr_go h | cases h))
theorem nr_lcmp (h : aLcmp pc ls st S M = some (.inr q)) : False := by
  unfold aLcmp at h; split at h <;> first | exact nr_go h | cases h
theorem nr_i2l (h : aI2l pc ls st S M = some (.inr q)) : False := by
  unfold aI2l at h; split at h <;> first | exact nr_go h | cases h
theorem nr_l2i (h : aL2i pc ls st S M = some (.inr q)) : False := by
  unfold aL2i at h; split at h <;> first | exact nr_pI h | cases h
theorem nr_ldc {k n : Nat} (h : aLdc k pc n ls st S M = some (.inr q)) : False := by
  unfold aLdc at h; split at h <;> first | exact nr_pI h | cases h
theorem nr_ldc2 {k : Nat} (h : aLdc2 k pc ls st S M = some (.inr q)) : False := by
  unfold aLdc2 at h; split at h <;> first | exact nr_pL h | cases h
theorem nr_gets {k : Nat} (h : aGets k pc ls st S M = some (.inr q)) : False := by
  unfold aGets at h; split at h <;> first | cases h | (split at h <;> first | exact nr_go h | cases h)
end NR
