/-! what a step leaves of the shapes: never fewer -/
def Gr (S S' : List Sh) : Prop := S.length ≤ S'.length ∧ tot S ≤ tot S'
theorem Gr.rf (S : List Sh) : Gr S S := ⟨Nat.le_refl _, Nat.le_refl _⟩
theorem Gr.eq {S S' : List Sh} (h : S = S') : Gr S S' := h ▸ Gr.rf S
theorem Gr.app (S T : List Sh) : Gr S (S ++ T) := ⟨by simp, by rw [tot_app]; omega⟩
theorem Gr.tr {S T U : List Sh} (h : Gr S T) (h2 : Gr T U) : Gr S U := ⟨Nat.le_trans h.1 h2.1, Nat.le_trans h.2 h2.2⟩
section GR
variable {pc pc' : Nat} {ls ls' : Lv} {st st' : List Vv} {S S' : List Sh} {M M' : Mem}
theorem gr_go (h : go pc ls st S M = some (.inl (pc', ls', st', S', M'))) : Gr S S' := Gr.eq (go_inj h).2.2.2.1
theorem gr_pI {x : Int} (h : pI pc ls st S M x = some (.inl (pc', ls', st', S', M'))) : Gr S S' := Gr.eq (pI_inj h).2.2.2.2.1
theorem gr_pL {x : Int} (h : pL pc ls st S M x = some (.inl (pc', ls', st', S', M'))) : Gr S S' := Gr.eq (pL_inj h).2.2.2.2.1
theorem gr_jmp {x : Int} (h : jmp pc x ls st S M = some (.inl (pc', ls', st', S', M'))) : Gr S S' := Gr.eq (jmp_inj h).2.2.2.1
theorem gr_bI {f : Int → Int → Option Int} (h : bI pc ls st S M f = some (.inl (pc', ls', st', S', M'))) : Gr S S' := by
  obtain ⟨_, _, _, _, _, _, _, _, _, _, e, _⟩ := bI_inj h
  exact Gr.eq e
theorem gr_bL {f : Int → Int → Option Int} (h : bL pc ls st S M f = some (.inl (pc', ls', st', S', M'))) : Gr S S' := by
  obtain ⟨_, _, _, _, _, _, _, _, _, _, e, _⟩ := bL_inj h
  exact Gr.eq e
theorem gr_uI {f : Int → Int} (h : uI pc ls st S M f = some (.inl (pc', ls', st', S', M'))) : Gr S S' := by
  obtain ⟨_, _, _, _, _, _, _, e, _⟩ := uI_inj h
  exact Gr.eq e
theorem gr_br {b : Bool} {x : Int} (h : br b pc x ls st S M = some (.inl (pc', ls', st', S', M'))) : Gr S S' := by
  obtain ⟨_, _, _, _, _, e, _⟩ := br_inj h
  exact Gr.eq e
theorem gr_ldI {k : Nat} (h : ldI pc k ls st S M = some (.inl (pc', ls', st', S', M'))) : Gr S S' := by
  unfold ldI at h; split at h <;> first | exact gr_go h | cases h
theorem gr_ldL {k : Nat} (h : ldL pc k ls st S M = some (.inl (pc', ls', st', S', M'))) : Gr S S' := by
  unfold ldL at h; split at h <;> first | exact gr_go h | cases h
theorem gr_ldA {k : Nat} (h : ldA pc k ls st S M = some (.inl (pc', ls', st', S', M'))) : Gr S S' := by
  unfold ldA at h; split at h <;> first | exact gr_go h | cases h
theorem gr_stI {k : Nat} (h : stI pc k ls st S M = some (.inl (pc', ls', st', S', M'))) : Gr S S' := by
  unfold stI at h; split at h <;> first | cases h | (split at h <;> first | exact gr_go h | cases h)
theorem gr_stL {k : Nat} (h : stL pc k ls st S M = some (.inl (pc', ls', st', S', M'))) : Gr S S' := by
  unfold stL at h; split at h <;> first | cases h | (split at h <;> first | exact gr_go h | cases h)
theorem gr_stA {k : Nat} (h : stA pc k ls st S M = some (.inl (pc', ls', st', S', M'))) : Gr S S' := by
  unfold stA at h; split at h <;> first | cases h | (split at h <;> first | exact gr_go h | cases h)
theorem gr_c0 {x : Int} {f : Int → Bool} (h : c0 pc x ls st S M f = some (.inl (pc', ls', st', S', M'))) : Gr S S' := by
  unfold c0 at h; split at h <;> first | exact gr_br h | cases h
theorem gr_cI {x : Int} {f : Int → Int → Bool} (h : cI pc x ls st S M f = some (.inl (pc', ls', st', S', M'))) : Gr S S' := by
  unfold cI at h; split at h <;> first | exact gr_br h | cases h
theorem gr_getf {k : Nat} (h : aGetf k pc ls st S M = some (.inl (pc', ls', st', S', M'))) : Gr S S' := by
  unfold aGetf at h
  split at h
  · split at h
    · split at h
      · split at h <;> exact gr_go h
      · cases h
    · cases h
  · cases h
theorem gr_set {a kd n : Nat} {rf rf' : List (Option Nat)} (hs : S[a]? = some (kd, n, rf)) : Gr S (S.set a (kd, n, rf')) := ⟨by rw [List.length_set]; exact Nat.le_refl _, by rw [tot_set hs]; exact Nat.le_refl _⟩
theorem gr_putf {own k : Nat} {ini : Bool} (h : aPutf own ini k pc ls st S M = some (.inl (pc', ls', st', S', M'))) : Gr S S' := by
  unfold aPutf at h
  split at h
  · split at h
    · next hs =>
      split at h
      · split at h
        · split at h
          · exact gr_go h
          · cases h
        · split at h
          · exact (gr_set hs).tr (gr_go h)
          · cases h
        · cases h
      · cases h
    · cases h
  · cases h
theorem gr_iald (h : aIald pc ls st S M = some (.inl (pc', ls', st', S', M'))) : Gr S S' := by
  unfold aIald at h
  split at h
  · split at h
    · split at h
      · split at h
        · split at h
          · exact gr_go h
          · cases h
        · cases h
      · split at h
        · split at h
          · exact gr_go h
          · cases h
        · cases h
    · cases h
  · cases h
theorem gr_iast (h : aIast pc ls st S M = some (.inl (pc', ls', st', S', M'))) : Gr S S' := by
  unfold aIast at h; split at h <;> first | cases h | (split at h <;> first | cases h | (split at h <;> first | exact gr_go h | cases h))
theorem gr_bald (h : aBald pc ls st S M = some (.inl (pc', ls', st', S', M'))) : Gr S S' := by
  unfold aBald at h; split at h <;> first | cases h | (split at h <;> first | cases h | (split at h <;> first | exact gr_go h | cases h))
theorem gr_bast (h : aBast pc ls st S M = some (.inl (pc', ls', st', S', M'))) : Gr S S' := by
  unfold aBast at h; split at h <;> first | cases h | (split at h <;> first | cases h | (split at h <;> first | exact gr_go h | cases h))
theorem gr_aald (h : aAald pc ls st S M = some (.inl (pc', ls', st', S', M'))) : Gr S S' := by
  unfold aAald at h; split at h <;> first | cases h | (split at h <;> first | cases h | (split at h <;> first | exact gr_go h | cases h))
theorem gr_alen (h : aAlen pc ls st S M = some (.inl (pc', ls', st', S', M'))) : Gr S S' := by
  unfold aAlen at h; split at h <;> first | cases h | (split at h <;> first | cases h | (split at h <;> first | exact gr_go h | cases h))
theorem gr_aast (h : aAast pc ls st S M = some (.inl (pc', ls', st', S', M'))) : Gr S S' := by
  unfold aAast at h
  split at h
  · split at h
    · next hs hv =>
      split at h
      · exact (gr_set hs).tr (gr_go h)
      · cases h
    · cases h
  · cases h
theorem gr_newa {k : Nat} (h : aNewa k pc ls st S M = some (.inl (pc', ls', st', S', M'))) : Gr S S' := by
  unfold aNewa at h; split at h <;> first | cases h | (split at h <;> first | exact (Gr.app _ _).tr (gr_go h) | cases h)
theorem gr_newq {k : Nat} (h : aNewq k pc ls st S M = some (.inl (pc', ls', st', S', M'))) : Gr S S' := by
  unfold aNewq at h; split at h <;> first | cases h | (split at h <;> first | exact (Gr.app _ _).tr (gr_go h) | cases h)
theorem gr_newm {k : Nat} (h : aNewm k pc ls st S M = some (.inl (pc', ls', st', S', M'))) : Gr S S' := by
  unfold aNewm at h; split at h <;> first | cases h | (split at h <;> first | exact (Gr.app _ _).tr (gr_go h) | cases h)
theorem gr_newO {k : Nat} (h : aNew k pc ls st S M = some (.inl (pc', ls', st', S', M'))) : Gr S S' := by
  unfold aNew at h; split at h <;> first | cases h | (split at h <;> first | exact (Gr.app _ _).tr (gr_go h) | cases h)
theorem gr_invV {k : Nat} (h : aInvV k st S = some (.inl (pc', ls', st', S', M'))) : Gr S S' := by
  unfold aInvV at h
  split at h
  · split at h
    · split at h
      · split at h
        · split at h <;> cases h
        · cases h
      · cases h
    · cases h
  · cases h
theorem gr_invS {k : Nat} (h : aInvS k pc ls st S M = some (.inl (pc', ls', st', S', M'))) : Gr S S' := by
  unfold aInvS at h
  split at h
  · split at h
    · split at h
      · split at h
        · split at h
          · exact gr_go h
          · cases h
        · cases h
      · cases h
    · split at h
      · split at h
        · split at h
          · exact gr_go h
          · cases h
        · cases h
      · split at h
        · split at h
          · split at h
            · exact gr_go h
            · cases h
          · cases h
        · split at h <;> cases h
  · cases h
theorem gr_invI {k : Nat} (h : aInvI k pc ls st S M = some (.inl (pc', ls', st', S', M'))) : Gr S S' := by
  unfold aInvI at h
  split at h
  · split at h
    · split at h
      · split at h
        · exact gr_go h
        · cases h
      · cases h
    · split at h
      · split at h
        · split at h <;> cases h
        · cases h
      · cases h
  · cases h
theorem gr_iret {rt : Option FieldType} (h : aIret rt st = some (.inl (pc', ls', st', S', M'))) : Gr S S' := by
  unfold aIret at h
  split at h
  · split at h
    · cases h
    · split at h <;> cases h
    · cases h
  · cases h
theorem gr_lret {rt : Option FieldType} (h : aLret rt st = some (.inl (pc', ls', st', S', M'))) : Gr S S' := by
  unfold aLret at h; split at h <;> first | cases h | (split at h <;> cases h)
theorem gr_aret {rt : Option FieldType} (h : aAret rt st = some (.inl (pc', ls', st', S', M'))) : Gr S S' := by
  unfold aAret at h; split at h <;> first | cases h | (split at h <;> cases h)
theorem gr_vret {rt : Option FieldType} (h : aVret rt st = some (.inl (pc', ls', st', S', M'))) : Gr S S' := by
  unfold aVret at h; split at h <;> cases h
theorem gr_tab {dflt lo hi : Int} {offs : Array Int} (h : aTab dflt lo hi offs pc ls st S M = some (.inl (pc', ls', st', S', M'))) : Gr S S' := by
  unfold aTab at h; split at h <;> first | cases h | (split at h <;> first | exact gr_jmp h | (split at h <;> first | exact gr_jmp h | cases h))
theorem gr_look {dflt : Int} {ps : Array (Int × Int)} (h : aLook dflt ps pc ls st S M = some (.inl (pc', ls', st', S', M'))) : Gr S S' := by
  unfold aLook at h; split at h <;> first | cases h | (split at h <;> first | exact gr_jmp h | cases h)
theorem gr_dup (h : aDup pc ls st S M = some (.inl (pc', ls', st', S', M'))) : Gr S S' := by
  unfold aDup at h; split at h <;> first | cases h | (split at h <;> first | exact gr_go h | cases h)
theorem gr_dup2 (h : aDup2 pc ls st S M = some (.inl (pc', ls', st', S', M'))) : Gr S S' := by
  unfold aDup2 at h; split at h <;> first | cases h | (split at h <;> first | exact gr_go h | cases h)
theorem gr_inc {k : Nat} {n : Int} (h : aInc pc k n ls st S M = some (.inl (pc', ls', st', S', M'))) : Gr S S' := by
  unfold aInc at h; split at h <;> first | cases h | (split at h <;> first | cases h | (split at h <;> first | exact gr_go h | cases h))
theorem gr_lcmp (h : aLcmp pc ls st S M = some (.inl (pc', ls', st', S', M'))) : Gr S S' := by
  unfold aLcmp at h; split at h <;> first | exact gr_go h | cases h
theorem gr_i2l (h : aI2l pc ls st S M = some (.inl (pc', ls', st', S', M'))) : Gr S S' := by
  unfold aI2l at h; split at h <;> first | exact gr_go h | cases h
theorem gr_l2i (h : aL2i pc ls st S M = some (.inl (pc', ls', st', S', M'))) : Gr S S' := by
  unfold aL2i at h; split at h <;> first | exact gr_pI h | cases h
theorem gr_ldc {k n : Nat} (h : aLdc k pc n ls st S M = some (.inl (pc', ls', st', S', M'))) : Gr S S' := by
  unfold aLdc at h; split at h <;> first | exact gr_pI h | cases h
theorem gr_ldc2 {k : Nat} (h : aLdc2 k pc ls st S M = some (.inl (pc', ls', st', S', M'))) : Gr S S' := by
  unfold aLdc2 at h; split at h <;> first | exact gr_pL h | cases h
theorem gr_gets {k : Nat} (h : aGets k pc ls st S M = some (.inl (pc', ls', st', S', M'))) : Gr S S' := by
  unfold aGets at h; split at h <;> first | cases h | (split at h <;> first | exact gr_go h | cases h)
set_option maxHeartbeats 4000000 in
theorem gr_actI {own : Nat} {ini : Bool} {rt : Option FieldType} {i : Instr} (h : actI own ini rt i pc ls st S M = some (.inl (pc', ls', st', S', M'))) : Gr S S' := by
  unfold actI at h
  split at h
  all_goals first
    | exact gr_pI h
    | exact gr_go h
    | exact gr_bI h
    | exact gr_bL h
    | exact gr_uI h
    | exact gr_ldI h
    | exact gr_ldL h
    | exact gr_ldA h
    | exact gr_stI h
    | exact gr_stL h
    | exact gr_stA h
    | exact gr_c0 h
    | exact gr_cI h
    | exact gr_jmp h
    | exact gr_ldc h
    | exact gr_ldc2 h
    | exact gr_inc h
    | exact gr_i2l h
    | exact gr_l2i h
    | exact gr_lcmp h
    | exact gr_dup h
    | exact gr_dup2 h
    | exact gr_tab h
    | exact gr_look h
    | exact gr_getf h
    | exact gr_putf h
    | exact gr_gets h
    | exact gr_iald h
    | exact gr_iast h
    | exact gr_bald h
    | exact gr_bast h
    | exact gr_aald h
    | exact gr_aast h
    | exact gr_alen h
    | exact gr_newa h
    | exact gr_newq h
    | exact gr_newm h
    | exact gr_newO h
    | exact gr_invV h
    | exact gr_invS h
    | exact gr_invI h
    | exact gr_iret h
    | exact gr_lret h
    | exact gr_aret h
    | exact gr_vret h
    | (split at h <;> first | exact gr_go h | cases h)
    | cases h
end GR
theorem gr_run : ∀ (n d mid pc : Nat) (ls : Lv) (st : List Vv) (S : List Sh) (M : Mem) (r : Option Vv) (S' : List Sh) (M' : Mem), run n d mid pc ls st S M = some (r, S', M') → Gr S S' := by
  intro n
  induction n with
  | zero => intro d mid pc ls st S M r S' M' h; cases h
  | succ n ih =>
    intro d mid pc ls st S M r S' M' h
    unfold run at h
    split at h
    · cases h
    · next pc1 ls1 st1 S1 M1 ha =>
      unfold act at ha
      split at ha
      · exact (gr_actI ha).tr (ih _ _ _ _ _ _ _ _ _ _ h)
      · cases ha
    · split at h
      · cases h
      · split at h
        · split at h
          · cases h
          · next r1 S1 M1 h1 => exact (ih _ _ _ _ _ _ _ _ _ _ h1).tr (ih _ _ _ _ _ _ _ _ _ _ h)
        · cases h
    · cases h
      exact Gr.rf _
